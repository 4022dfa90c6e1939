/-! methods (own work, written by wip/gen2/sx.py) -/
/-! StrikeAwake$Census.awakeBeside(LStrikeAwake$Parish;II)I -/
theorem e115 : wq_en 115 = some (4, 7, false, some FieldType.int) := rfl
theorem cg115_0 : mc_cd 115 0 = some (.iconst 0, 1) ∧ mc_cd 115 1 = some (.istore 4, 2) ∧ mc_cd 115 3 = some (.iconst 0, 1) ∧ mc_cd 115 4 = some (.istore 5, 2) ∧ mc_cd 115 6 = some (.iload 5, 2) ∧ mc_cd 115 8 = some (.i2l, 1) ∧ mc_cd 115 9 = some (.aload_n 1, 1) ∧ mc_cd 115 10 = some (.getfield 45, 3) := by decide +kernel
theorem c115_0 : mc_cd 115 0 = some (.iconst 0, 1) := cg115_0.1
theorem c115_1 : mc_cd 115 1 = some (.istore 4, 2) := cg115_0.2.1
theorem c115_3 : mc_cd 115 3 = some (.iconst 0, 1) := cg115_0.2.2.1
theorem c115_4 : mc_cd 115 4 = some (.istore 5, 2) := cg115_0.2.2.2.1
theorem c115_6 : mc_cd 115 6 = some (.iload 5, 2) := cg115_0.2.2.2.2.1
theorem c115_8 : mc_cd 115 8 = some (.i2l, 1) := cg115_0.2.2.2.2.2.1
theorem c115_9 : mc_cd 115 9 = some (.aload_n 1, 1) := cg115_0.2.2.2.2.2.2.1
theorem c115_10 : mc_cd 115 10 = some (.getfield 45, 3) := cg115_0.2.2.2.2.2.2.2
theorem cg115_13 : mc_cd 115 13 = some (.lcmp, 1) ∧ mc_cd 115 14 = some (.ifCond .ge 75, 3) ∧ mc_cd 115 17 = some (.iload 5, 2) ∧ mc_cd 115 19 = some (.sipush 20000, 3) ∧ mc_cd 115 22 = some (.if_icmp .ge 67, 3) ∧ mc_cd 115 25 = some (.aload_n 0, 1) ∧ mc_cd 115 26 = some (.iload 5, 2) ∧ mc_cd 115 28 = some (.invokevirtual 113, 3) := by decide +kernel
theorem c115_13 : mc_cd 115 13 = some (.lcmp, 1) := cg115_13.1
theorem c115_14 : mc_cd 115 14 = some (.ifCond .ge 75, 3) := cg115_13.2.1
theorem c115_17 : mc_cd 115 17 = some (.iload 5, 2) := cg115_13.2.2.1
theorem c115_19 : mc_cd 115 19 = some (.sipush 20000, 3) := cg115_13.2.2.2.1
theorem c115_22 : mc_cd 115 22 = some (.if_icmp .ge 67, 3) := cg115_13.2.2.2.2.1
theorem c115_25 : mc_cd 115 25 = some (.aload_n 0, 1) := cg115_13.2.2.2.2.2.1
theorem c115_26 : mc_cd 115 26 = some (.iload 5, 2) := cg115_13.2.2.2.2.2.2.1
theorem c115_28 : mc_cd 115 28 = some (.invokevirtual 113, 3) := cg115_13.2.2.2.2.2.2.2
theorem cg115_31 : mc_cd 115 31 = some (.ifCond .eq 13, 3) ∧ mc_cd 115 34 = some (.aload_n 1, 1) ∧ mc_cd 115 35 = some (.iload 5, 2) ∧ mc_cd 115 37 = some (.iload_n 2, 1) ∧ mc_cd 115 38 = some (.invokevirtual 135, 3) ∧ mc_cd 115 41 = some (.goto 4, 3) ∧ mc_cd 115 44 = some (.iconst (-1), 1) ∧ mc_cd 115 45 = some (.istore 6, 2) := by decide +kernel
theorem c115_31 : mc_cd 115 31 = some (.ifCond .eq 13, 3) := cg115_31.1
theorem c115_34 : mc_cd 115 34 = some (.aload_n 1, 1) := cg115_31.2.1
theorem c115_35 : mc_cd 115 35 = some (.iload 5, 2) := cg115_31.2.2.1
theorem c115_37 : mc_cd 115 37 = some (.iload_n 2, 1) := cg115_31.2.2.2.1
theorem c115_38 : mc_cd 115 38 = some (.invokevirtual 135, 3) := cg115_31.2.2.2.2.1
theorem c115_41 : mc_cd 115 41 = some (.goto 4, 3) := cg115_31.2.2.2.2.2.1
theorem c115_44 : mc_cd 115 44 = some (.iconst (-1), 1) := cg115_31.2.2.2.2.2.2.1
theorem c115_45 : mc_cd 115 45 = some (.istore 6, 2) := cg115_31.2.2.2.2.2.2.2
theorem cg115_47 : mc_cd 115 47 = some (.iload 6, 2) ∧ mc_cd 115 49 = some (.ifCond .lt 34, 3) ∧ mc_cd 115 52 = some (.aload_n 1, 1) ∧ mc_cd 115 53 = some (.getfield 78, 3) ∧ mc_cd 115 56 = some (.iload_n 2, 1) ∧ mc_cd 115 57 = some (.aaload, 1) ∧ mc_cd 115 58 = some (.getfield 138, 3) ∧ mc_cd 115 61 = some (.iload 6, 2) := by decide +kernel
theorem c115_47 : mc_cd 115 47 = some (.iload 6, 2) := cg115_47.1
theorem c115_49 : mc_cd 115 49 = some (.ifCond .lt 34, 3) := cg115_47.2.1
theorem c115_52 : mc_cd 115 52 = some (.aload_n 1, 1) := cg115_47.2.2.1
theorem c115_53 : mc_cd 115 53 = some (.getfield 78, 3) := cg115_47.2.2.2.1
theorem c115_56 : mc_cd 115 56 = some (.iload_n 2, 1) := cg115_47.2.2.2.2.1
theorem c115_57 : mc_cd 115 57 = some (.aaload, 1) := cg115_47.2.2.2.2.2.1
theorem c115_58 : mc_cd 115 58 = some (.getfield 138, 3) := cg115_47.2.2.2.2.2.2.1
theorem c115_61 : mc_cd 115 61 = some (.iload 6, 2) := cg115_47.2.2.2.2.2.2.2
theorem cg115_63 : mc_cd 115 63 = some (.iaload, 1) ∧ mc_cd 115 64 = some (.iload_n 3, 1) ∧ mc_cd 115 65 = some (.invokestatic 122, 3) ∧ mc_cd 115 68 = some (.ifCond .eq 15, 3) ∧ mc_cd 115 71 = some (.iload 4, 2) ∧ mc_cd 115 73 = some (.aload_n 1, 1) ∧ mc_cd 115 74 = some (.iload 5, 2) ∧ mc_cd 115 76 = some (.iload_n 3, 1) := by decide +kernel
theorem c115_63 : mc_cd 115 63 = some (.iaload, 1) := cg115_63.1
theorem c115_64 : mc_cd 115 64 = some (.iload_n 3, 1) := cg115_63.2.1
theorem c115_65 : mc_cd 115 65 = some (.invokestatic 122, 3) := cg115_63.2.2.1
theorem c115_68 : mc_cd 115 68 = some (.ifCond .eq 15, 3) := cg115_63.2.2.2.1
theorem c115_71 : mc_cd 115 71 = some (.iload 4, 2) := cg115_63.2.2.2.2.1
theorem c115_73 : mc_cd 115 73 = some (.aload_n 1, 1) := cg115_63.2.2.2.2.2.1
theorem c115_74 : mc_cd 115 74 = some (.iload 5, 2) := cg115_63.2.2.2.2.2.2.1
theorem c115_76 : mc_cd 115 76 = some (.iload_n 3, 1) := cg115_63.2.2.2.2.2.2.2
theorem cg115_77 : mc_cd 115 77 = some (.invokestatic 141, 3) ∧ mc_cd 115 80 = some (.ior, 1) ∧ mc_cd 115 81 = some (.istore 4, 2) ∧ mc_cd 115 83 = some (.iinc 5 1, 3) ∧ mc_cd 115 86 = some (.goto (-80), 3) ∧ mc_cd 115 89 = some (.iload 4, 2) ∧ mc_cd 115 91 = some (.ireturn, 1) := by decide +kernel
theorem c115_77 : mc_cd 115 77 = some (.invokestatic 141, 3) := cg115_77.1
theorem c115_80 : mc_cd 115 80 = some (.ior, 1) := cg115_77.2.1
theorem c115_81 : mc_cd 115 81 = some (.istore 4, 2) := cg115_77.2.2.1
theorem c115_83 : mc_cd 115 83 = some (.iinc 5 1, 3) := cg115_77.2.2.2.1
theorem c115_86 : mc_cd 115 86 = some (.goto (-80), 3) := cg115_77.2.2.2.2.1
theorem c115_89 : mc_cd 115 89 = some (.iload 4, 2) := cg115_77.2.2.2.2.2.1
theorem c115_91 : mc_cd 115 91 = some (.ireturn, 1) := cg115_77.2.2.2.2.2.2
abbrev q_115 (r0 : Nat) (r1 : Nat) (a2 : Int) (a3 : Int) (T : wq_T) (H : wq_H) : Option Value → wq_T → wq_H → Prop := fun r T' H' => T = T' ∧ H = H' ∧ ∃ z : Int, some (vI z) = r ∧ ((-2147483648) ≤ z ∧ z ≤ 2147483647)
set_option maxHeartbeats 4000000 in
theorem s_115 {kt : Nat → Option mc_E} {T : wq_T} {H : wq_H} {r0 : Nat} {r1 : Nat} {a2 : Int} {a3 : Int} (hW : WT T H) (g0 : T.2.2.2 r0 = some 12) (g1 : T.2.2.2 r1 = some 27) (i2 : 0 ≤ a2 ∧ a2 ≤ 5) (i3 : (-2147483648) ≤ a3 ∧ a3 ≤ 2147483647) : wpc kt 4 115 [.ref r0, .ref r1, vI a2, vI a3] T H (q_115 r0 r1 a2 a3 T H) := by
  refine wp_enter e115 (Nat.le_of_ble_eq_true rfl) rfl ?_
  show wp _ _ 115 0 [(0, .ref r0), (1, .ref r1), (2, vI a2), (3, vI a3)] [] _ H _
  refine wp_of e115 c115_0 (rw_iconst (pc' := 1) rfl ?_)
  refine wp_of e115 c115_1 (rw_istore (pc' := 3) (z := 0) (L' := [(4, vI 0), (0, .ref r0), (1, .ref r1), (2, vI a2), (3, vI a3)]) rfl rfl rfl ?_)
  refine wp_of e115 c115_3 (rw_iconst (pc' := 4) rfl ?_)
  refine wp_of e115 c115_4 (rw_istore (pc' := 6) (z := 0) (L' := [(5, vI 0), (4, vI 0), (0, .ref r0), (1, .ref r1), (2, vI a2), (3, vI a3)]) rfl rfl rfl ?_)
  have lp34128 : ∀ (n34129 : Nat) (v34131 : Int) (v34132 : Int), (0 ≤ v34131 ∧ v34131 ≤ 20000) → ((-2147483648) ≤ v34132 ∧ v34132 ≤ 2147483647) → (20000 - v34131).toNat = n34129 → wp kt 3 115 6 [(5, vI v34131), (4, vI v34132), (0, .ref r0), (1, .ref r1), (2, vI a2), (3, vI a3)] [] T H (q_115 r0 r1 a2 a3 T H) := by
    intro n34129
    induction n34129 using Nat.strongRecOn with
    | _ n34129 ih34130 =>
      intro v34131 v34132 b34135 b34136 m34137
      refine wp_of e115 c115_6 (rw_iload (pc' := 8) (z := v34131) rfl rfl ?_)
      refine wp_of e115 c115_8 (rw_i2l (pc' := 9) rfl ⟨by omega, by omega⟩ ?_)
      refine wp_of e115 c115_9 (rw_aload_n (pc' := 10) (v := .ref r1) rfl rfl rfl ?_)
      refine wp_of e115 c115_10 (xg_L (pc' := 13) lf_4_45 hW g1 sh_27 (by decide) (by decide) ty_27_18 rfl rfl (fun b34138 b34139 => ?_))
      refine wp_of e115 c115_13 (rw_lcmp (pc' := 14) rfl ⟨by omega, by omega⟩ ⟨by omega, by omega⟩ ?_)
      have b34140 := wq_cmp_b v34131 (H r1 18)
      refine wp_of e115 c115_14 (rw_if_ge (p1 := 89) (p2 := 17) (by decide) rfl ⟨by omega, by omega⟩ (fun c34141 => ?_) (fun c34141 => ?_))
      · refine wp_of e115 c115_89 (rw_iload (pc' := 91) (z := v34132) rfl rfl ?_)
        exact wp_ireturn e115 c115_91 rfl ⟨rfl, rfl, v34132, rfl, ⟨by omega, by omega⟩⟩
      · refine wp_of e115 c115_17 (rw_iload (pc' := 19) (z := v34131) rfl rfl ?_)
        refine wp_of e115 c115_19 (rw_sipush (pc' := 22) (z := 20000) rfl (by decide) ?_)
        refine wp_of e115 c115_22 (rw_icmp_ge (p1 := 89) (p2 := 25) (by decide) rfl ⟨by omega, by omega⟩ ⟨by omega, by omega⟩ (fun c34142 => ?_) (fun c34142 => ?_))
        · refine wp_of e115 c115_89 (rw_iload (pc' := 91) (z := v34132) rfl rfl ?_)
          exact wp_ireturn e115 c115_91 rfl ⟨rfl, rfl, v34132, rfl, ⟨by omega, by omega⟩⟩
        · refine wp_of e115 c115_25 (rw_aload_n (pc' := 26) (v := .ref r0) rfl rfl rfl ?_)
          refine wp_of e115 c115_26 (rw_iload (pc' := 28) (z := v34131) rfl rfl ?_)
          refine wp_of e115 c115_28 (xc_V (pc' := 31) (r := r0) (as := [vI v34131]) (st := []) (lm_4_113) rfl rfl (Nat.le_of_ble_eq_true rfl) hW g0 sh_12 (by decide) rfl (by decide) (s_95 hW g0 ⟨by omega, by omega⟩) (fun R34143 T34144 H34145 p34146 => ?_))
          obtain ⟨e34147, e34149, z34150, e34148, b34151⟩ := p34146
          subst e34147
          subst e34148
          subst e34149
          show wp _ _ 115 31 [(5, vI v34131), (4, vI v34132), (0, .ref r0), (1, .ref r1), (2, vI a2), (3, vI a3)] [vI z34150] _ H _
          refine wp_of e115 c115_31 (rw_if_eq (p1 := 44) (p2 := 34) (by decide) rfl ⟨by omega, by omega⟩ (fun c34152 => ?_) (fun c34152 => ?_))
          · refine wp_of e115 c115_44 (rw_iconst (pc' := 45) rfl ?_)
            refine wp_of e115 c115_45 (rw_istore (pc' := 47) (z := -1) (L' := [(6, vI (-1)), (5, vI v34131), (4, vI v34132), (0, .ref r0), (1, .ref r1), (2, vI a2), (3, vI a3)]) rfl rfl rfl ?_)
            refine wp_of e115 c115_47 (rw_iload (pc' := 49) (z := -1) rfl rfl ?_)
            refine wp_of e115 c115_49 (rw_if_lt (p1 := 83) (p2 := 52) (by decide) rfl ⟨by omega, by omega⟩ (fun c34153 => ?_) (fun c34153 => ?_))
            · refine wp_of e115 c115_83 (rw_iinc (pc' := 86) (z := v34131) (L' := [(5, vI (v34131 + 1)), (6, vI (-1)), (4, vI v34132), (0, .ref r0), (1, .ref r1), (2, vI a2), (3, vI a3)]) rfl rfl rfl rfl ?_)
              refine wp_of e115 c115_86 (rw_goto (p1 := 6) (by decide) ?_)
              exact wp_lc (ks := [5, 6, 4, 0, 1, 2, 3]) (wl_c rfl (wl_c rfl (wl_c rfl (wl_c rfl (wl_c rfl (wl_c rfl wl_n)))))) rfl (by decide) (ih34130 _ (by omega) (v34131 + 1) v34132 ⟨by omega, by omega⟩ ⟨by omega, by omega⟩ rfl)
            · exfalso
              omega
          · refine wp_of e115 c115_34 (rw_aload_n (pc' := 35) (v := .ref r1) rfl rfl rfl ?_)
            refine wp_of e115 c115_35 (rw_iload (pc' := 37) (z := v34131) rfl rfl ?_)
            refine wp_of e115 c115_37 (rw_iload_n (pc' := 38) (z := a2) rfl rfl ?_)
            refine wp_of e115 c115_38 (xc_V (pc' := 41) (r := r1) (as := [vI v34131, vI a2]) (st := []) (lm_4_135) rfl rfl (Nat.le_of_ble_eq_true rfl) hW g1 sh_27 (by decide) rfl (by decide) (s_96 hW g1 ⟨by omega, by omega⟩ ⟨by omega, by omega⟩) (fun R34154 T34155 H34156 p34157 => ?_))
            obtain ⟨e34158, e34160, z34161, e34159, b34162⟩ := p34157
            subst e34158
            subst e34159
            subst e34160
            show wp _ _ 115 41 [(5, vI v34131), (4, vI v34132), (0, .ref r0), (1, .ref r1), (2, vI a2), (3, vI a3)] [vI z34161] _ H _
            refine wp_of e115 c115_41 (rw_goto (p1 := 45) (by decide) ?_)
            refine wp_of e115 c115_45 (rw_istore (pc' := 47) (z := z34161) (L' := [(6, vI z34161), (5, vI v34131), (4, vI v34132), (0, .ref r0), (1, .ref r1), (2, vI a2), (3, vI a3)]) rfl rfl rfl ?_)
            refine wp_of e115 c115_47 (rw_iload (pc' := 49) (z := z34161) rfl rfl ?_)
            refine wp_of e115 c115_49 (rw_if_lt (p1 := 83) (p2 := 52) (by decide) rfl ⟨by omega, by omega⟩ (fun c34163 => ?_) (fun c34163 => ?_))
            · refine wp_of e115 c115_83 (rw_iinc (pc' := 86) (z := v34131) (L' := [(5, vI (v34131 + 1)), (6, vI z34161), (4, vI v34132), (0, .ref r0), (1, .ref r1), (2, vI a2), (3, vI a3)]) rfl rfl rfl rfl ?_)
              refine wp_of e115 c115_86 (rw_goto (p1 := 6) (by decide) ?_)
              exact wp_lc (ks := [5, 6, 4, 0, 1, 2, 3]) (wl_c rfl (wl_c rfl (wl_c rfl (wl_c rfl (wl_c rfl (wl_c rfl wl_n)))))) rfl (by decide) (ih34130 _ (by omega) (v34131 + 1) v34132 ⟨by omega, by omega⟩ ⟨by omega, by omega⟩ rfl)
            · refine wp_of e115 c115_52 (rw_aload_n (pc' := 53) (v := .ref r1) rfl rfl rfl ?_)
              refine wp_of e115 c115_53 (xg_R (pc' := 56) lf_4_78 hW g1 sh_27 (by decide) (by decide) ty_27_0 rfl rfl (fun r34164 q34165 g34166 => ?_))
              refine wp_of e115 c115_56 (rw_iload_n (pc' := 57) (z := a2) rfl rfl ?_)
              refine wp_of e115 c115_57 (xa_R (pc' := 58) (by decide) hW g34166 sh_28 (by decide) (ty_28 _) (by omega) (by omega) rfl (fun r34167 q34168 g34169 => ?_))
              refine wp_of e115 c115_58 (xg_R (pc' := 61) lf_4_138 hW g34169 sh_35 (by decide) (by decide) ty_35_2 rfl rfl (fun r34170 q34171 g34172 => ?_))
              refine wp_of e115 c115_61 (rw_iload (pc' := 63) (z := z34161) rfl rfl ?_)
              refine wp_of e115 c115_63 (xa_I (so := 0) (pc' := 64) hW g34172 sh_38 (by decide) (ty_38 _) (by omega) (by omega) rfl (fun b34173 b34174 => ?_))
              refine wp_of e115 c115_64 (rw_iload_n (pc' := 65) (z := a3) rfl rfl ?_)
              refine wp_of e115 c115_65 (xc_S (pc' := 68) (as := [vI (H r34170 (z34161.toNat)), vI a3]) (st := []) (lm_4_122) rfl rfl (Nat.le_of_ble_eq_true rfl) rfl (by decide) (s_36 hW ⟨by omega, by omega⟩ ⟨by omega, by omega⟩) (fun R34175 T34176 H34177 p34178 => ?_))
              obtain ⟨e34179, e34181, z34182, e34180, b34183⟩ := p34178
              subst e34179
              subst e34180
              subst e34181
              show wp _ _ 115 68 [(6, vI z34161), (5, vI v34131), (4, vI v34132), (0, .ref r0), (1, .ref r1), (2, vI a2), (3, vI a3)] [vI z34182] _ H _
              refine wp_of e115 c115_68 (rw_if_eq (p1 := 83) (p2 := 71) (by decide) rfl ⟨by omega, by omega⟩ (fun c34184 => ?_) (fun c34184 => ?_))
              · refine wp_of e115 c115_83 (rw_iinc (pc' := 86) (z := v34131) (L' := [(5, vI (v34131 + 1)), (6, vI z34161), (4, vI v34132), (0, .ref r0), (1, .ref r1), (2, vI a2), (3, vI a3)]) rfl rfl rfl rfl ?_)
                refine wp_of e115 c115_86 (rw_goto (p1 := 6) (by decide) ?_)
                exact wp_lc (ks := [5, 6, 4, 0, 1, 2, 3]) (wl_c rfl (wl_c rfl (wl_c rfl (wl_c rfl (wl_c rfl (wl_c rfl wl_n)))))) rfl (by decide) (ih34130 _ (by omega) (v34131 + 1) v34132 ⟨by omega, by omega⟩ ⟨by omega, by omega⟩ rfl)
              · refine wp_of e115 c115_71 (rw_iload (pc' := 73) (z := v34132) rfl rfl ?_)
                refine wp_of e115 c115_73 (rw_aload_n (pc' := 74) (v := .ref r1) rfl rfl rfl ?_)
                refine wp_of e115 c115_74 (rw_iload (pc' := 76) (z := v34131) rfl rfl ?_)
                refine wp_of e115 c115_76 (rw_iload_n (pc' := 77) (z := a3) rfl rfl ?_)
                refine wp_of e115 c115_77 (xc_S (pc' := 80) (as := [.ref r1, vI v34131, vI a3]) (st := [vI v34132]) (lm_4_141) rfl rfl (Nat.le_of_ble_eq_true rfl) rfl (by decide) (s_116 hW g1 ⟨by omega, by omega⟩ ⟨by omega, by omega⟩) (fun R34185 T34186 H34187 p34188 => ?_))
                obtain ⟨e34189, e34191, z34192, e34190, b34193⟩ := p34188
                subst e34189
                subst e34190
                subst e34191
                show wp _ _ 115 80 [(6, vI z34161), (5, vI v34131), (4, vI v34132), (0, .ref r0), (1, .ref r1), (2, vI a2), (3, vI a3)] [vI z34192, vI v34132] _ H _
                refine wp_of e115 c115_80 (rw_ior (pc' := 81) rfl ?_)
                obtain ⟨v34194, e34195⟩ : ∃ x : Int, x = wq_or v34132 z34192 := ⟨_, rfl⟩
                rw [← e34195]
                have b34196 : -2147483648 ≤ v34194 ∧ v34194 ≤ 2147483647 := by
                  rw [e34195]
                  exact wI_or _ _
                refine wp_of e115 c115_81 (rw_istore (pc' := 83) (z := v34194) (L' := [(4, vI v34194), (6, vI z34161), (5, vI v34131), (0, .ref r0), (1, .ref r1), (2, vI a2), (3, vI a3)]) rfl rfl rfl ?_)
                refine wp_of e115 c115_83 (rw_iinc (pc' := 86) (z := v34131) (L' := [(5, vI (v34131 + 1)), (4, vI v34194), (6, vI z34161), (0, .ref r0), (1, .ref r1), (2, vI a2), (3, vI a3)]) rfl rfl rfl rfl ?_)
                refine wp_of e115 c115_86 (rw_goto (p1 := 6) (by decide) ?_)
                exact wp_lc (ks := [5, 4, 6, 0, 1, 2, 3]) (wl_c rfl (wl_c rfl (wl_c rfl (wl_c rfl (wl_c rfl (wl_c rfl wl_n)))))) rfl (by decide) (ih34130 _ (by omega) (v34131 + 1) v34194 ⟨by omega, by omega⟩ ⟨by omega, by omega⟩ rfl)
  exact wp_lc (ks := [5, 4, 0, 1, 2, 3]) (wl_c rfl (wl_c rfl (wl_c rfl (wl_c rfl (wl_c rfl (wl_c rfl wl_n)))))) rfl (by decide) (lp34128 _ 0 0 ⟨by omega, by omega⟩ ⟨by omega, by omega⟩ rfl)
/-! StrikeAwake.hiding(II)I -/
theorem e114 : wq_en 114 = some (0, 4, false, some FieldType.int) := rfl
theorem cg114_0 : mc_cd 114 0 = some (.aload_n 0, 1) ∧ mc_cd 114 1 = some (.aload_n 0, 1) ∧ mc_cd 114 2 = some (.iload_n 1, 1) ∧ mc_cd 114 3 = some (.invokevirtual 105, 3) ∧ mc_cd 114 6 = some (.ifCond .eq 15, 3) ∧ mc_cd 114 9 = some (.aload_n 0, 1) ∧ mc_cd 114 10 = some (.iload_n 2, 1) ∧ mc_cd 114 11 = some (.invokevirtual 132, 3) := by decide +kernel
theorem c114_0 : mc_cd 114 0 = some (.aload_n 0, 1) := cg114_0.1
theorem c114_1 : mc_cd 114 1 = some (.aload_n 0, 1) := cg114_0.2.1
theorem c114_2 : mc_cd 114 2 = some (.iload_n 1, 1) := cg114_0.2.2.1
theorem c114_3 : mc_cd 114 3 = some (.invokevirtual 105, 3) := cg114_0.2.2.2.1
theorem c114_6 : mc_cd 114 6 = some (.ifCond .eq 15, 3) := cg114_0.2.2.2.2.1
theorem c114_9 : mc_cd 114 9 = some (.aload_n 0, 1) := cg114_0.2.2.2.2.2.1
theorem c114_10 : mc_cd 114 10 = some (.iload_n 2, 1) := cg114_0.2.2.2.2.2.2.1
theorem c114_11 : mc_cd 114 11 = some (.invokevirtual 132, 3) := cg114_0.2.2.2.2.2.2.2
theorem cg114_14 : mc_cd 114 14 = some (.ifCond .eq 7, 3) ∧ mc_cd 114 17 = some (.iconst 1, 1) ∧ mc_cd 114 18 = some (.goto 4, 3) ∧ mc_cd 114 21 = some (.iconst 0, 1) ∧ mc_cd 114 22 = some (.invokevirtual 174, 3) ∧ mc_cd 114 25 = some (.istore_n 3, 1) ∧ mc_cd 114 26 = some (.iload_n 3, 1) ∧ mc_cd 114 27 = some (.ifCond .eq 9, 3) := by decide +kernel
theorem c114_14 : mc_cd 114 14 = some (.ifCond .eq 7, 3) := cg114_14.1
theorem c114_17 : mc_cd 114 17 = some (.iconst 1, 1) := cg114_14.2.1
theorem c114_18 : mc_cd 114 18 = some (.goto 4, 3) := cg114_14.2.2.1
theorem c114_21 : mc_cd 114 21 = some (.iconst 0, 1) := cg114_14.2.2.2.1
theorem c114_22 : mc_cd 114 22 = some (.invokevirtual 174, 3) := cg114_14.2.2.2.2.1
theorem c114_25 : mc_cd 114 25 = some (.istore_n 3, 1) := cg114_14.2.2.2.2.2.1
theorem c114_26 : mc_cd 114 26 = some (.iload_n 3, 1) := cg114_14.2.2.2.2.2.2.1
theorem c114_27 : mc_cd 114 27 = some (.ifCond .eq 9, 3) := cg114_14.2.2.2.2.2.2.2
theorem cg114_30 : mc_cd 114 30 = some (.aload_n 0, 1) ∧ mc_cd 114 31 = some (.iload_n 3, 1) ∧ mc_cd 114 32 = some (.invokevirtual 70, 3) ∧ mc_cd 114 35 = some (.ireturn, 1) ∧ mc_cd 114 36 = some (.aload_n 0, 1) ∧ mc_cd 114 37 = some (.aload_n 0, 1) ∧ mc_cd 114 38 = some (.getfield 30, 3) ∧ mc_cd 114 41 = some (.aload_n 0, 1) := by decide +kernel
theorem c114_30 : mc_cd 114 30 = some (.aload_n 0, 1) := cg114_30.1
theorem c114_31 : mc_cd 114 31 = some (.iload_n 3, 1) := cg114_30.2.1
theorem c114_32 : mc_cd 114 32 = some (.invokevirtual 70, 3) := cg114_30.2.2.1
theorem c114_35 : mc_cd 114 35 = some (.ireturn, 1) := cg114_30.2.2.2.1
theorem c114_36 : mc_cd 114 36 = some (.aload_n 0, 1) := cg114_30.2.2.2.2.1
theorem c114_37 : mc_cd 114 37 = some (.aload_n 0, 1) := cg114_30.2.2.2.2.2.1
theorem c114_38 : mc_cd 114 38 = some (.getfield 30, 3) := cg114_30.2.2.2.2.2.2.1
theorem c114_41 : mc_cd 114 41 = some (.aload_n 0, 1) := cg114_30.2.2.2.2.2.2.2
theorem cg114_42 : mc_cd 114 42 = some (.getfield 51, 3) ∧ mc_cd 114 45 = some (.iload_n 1, 1) ∧ mc_cd 114 46 = some (.iload_n 2, 1) ∧ mc_cd 114 47 = some (.invokevirtual 220, 3) ∧ mc_cd 114 50 = some (.invokevirtual 99, 3) ∧ mc_cd 114 53 = some (.ireturn, 1) := by decide +kernel
theorem c114_42 : mc_cd 114 42 = some (.getfield 51, 3) := cg114_42.1
theorem c114_45 : mc_cd 114 45 = some (.iload_n 1, 1) := cg114_42.2.1
theorem c114_46 : mc_cd 114 46 = some (.iload_n 2, 1) := cg114_42.2.2.1
theorem c114_47 : mc_cd 114 47 = some (.invokevirtual 220, 3) := cg114_42.2.2.2.1
theorem c114_50 : mc_cd 114 50 = some (.invokevirtual 99, 3) := cg114_42.2.2.2.2.1
theorem c114_53 : mc_cd 114 53 = some (.ireturn, 1) := cg114_42.2.2.2.2.2
/-! StrikeAwake$Census.outermost([IIZ)I -/
theorem e118 : wq_en 118 = some (4, 6, false, some FieldType.int) := rfl
theorem cg118_0 : mc_cd 118 0 = some (.iconst (-1), 1) ∧ mc_cd 118 1 = some (.istore 4, 2) ∧ mc_cd 118 3 = some (.iconst 0, 1) ∧ mc_cd 118 4 = some (.istore 5, 2) ∧ mc_cd 118 6 = some (.iload 5, 2) ∧ mc_cd 118 8 = some (.bipush 40, 2) ∧ mc_cd 118 10 = some (.if_icmp .ge 64, 3) ∧ mc_cd 118 13 = some (.iload 5, 2) := by decide +kernel
theorem c118_0 : mc_cd 118 0 = some (.iconst (-1), 1) := cg118_0.1
theorem c118_1 : mc_cd 118 1 = some (.istore 4, 2) := cg118_0.2.1
theorem c118_3 : mc_cd 118 3 = some (.iconst 0, 1) := cg118_0.2.2.1
theorem c118_4 : mc_cd 118 4 = some (.istore 5, 2) := cg118_0.2.2.2.1
theorem c118_6 : mc_cd 118 6 = some (.iload 5, 2) := cg118_0.2.2.2.2.1
theorem c118_8 : mc_cd 118 8 = some (.bipush 40, 2) := cg118_0.2.2.2.2.2.1
theorem c118_10 : mc_cd 118 10 = some (.if_icmp .ge 64, 3) := cg118_0.2.2.2.2.2.2.1
theorem c118_13 : mc_cd 118 13 = some (.iload 5, 2) := cg118_0.2.2.2.2.2.2.2
theorem cg118_15 : mc_cd 118 15 = some (.aload_n 1, 1) ∧ mc_cd 118 16 = some (.arraylength, 1) ∧ mc_cd 118 17 = some (.if_icmp .ge 57, 3) ∧ mc_cd 118 20 = some (.aload_n 0, 1) ∧ mc_cd 118 21 = some (.getfield 17, 3) ∧ mc_cd 118 24 = some (.iload_n 2, 1) ∧ mc_cd 118 25 = some (.aaload, 1) ∧ mc_cd 118 26 = some (.iload 5, 2) := by decide +kernel
theorem c118_15 : mc_cd 118 15 = some (.aload_n 1, 1) := cg118_15.1
theorem c118_16 : mc_cd 118 16 = some (.arraylength, 1) := cg118_15.2.1
theorem c118_17 : mc_cd 118 17 = some (.if_icmp .ge 57, 3) := cg118_15.2.2.1
theorem c118_20 : mc_cd 118 20 = some (.aload_n 0, 1) := cg118_15.2.2.2.1
theorem c118_21 : mc_cd 118 21 = some (.getfield 17, 3) := cg118_15.2.2.2.2.1
theorem c118_24 : mc_cd 118 24 = some (.iload_n 2, 1) := cg118_15.2.2.2.2.2.1
theorem c118_25 : mc_cd 118 25 = some (.aaload, 1) := cg118_15.2.2.2.2.2.2.1
theorem c118_26 : mc_cd 118 26 = some (.iload 5, 2) := cg118_15.2.2.2.2.2.2.2
theorem cg118_28 : mc_cd 118 28 = some (.iaload, 1) ∧ mc_cd 118 29 = some (.ifCond .le 39, 3) ∧ mc_cd 118 32 = some (.iload 4, 2) ∧ mc_cd 118 34 = some (.ifCond .lt 28, 3) ∧ mc_cd 118 37 = some (.iload_n 3, 1) ∧ mc_cd 118 38 = some (.ifCond .eq 15, 3) ∧ mc_cd 118 41 = some (.aload_n 1, 1) ∧ mc_cd 118 42 = some (.iload 5, 2) := by decide +kernel
theorem c118_28 : mc_cd 118 28 = some (.iaload, 1) := cg118_28.1
theorem c118_29 : mc_cd 118 29 = some (.ifCond .le 39, 3) := cg118_28.2.1
theorem c118_32 : mc_cd 118 32 = some (.iload 4, 2) := cg118_28.2.2.1
theorem c118_34 : mc_cd 118 34 = some (.ifCond .lt 28, 3) := cg118_28.2.2.2.1
theorem c118_37 : mc_cd 118 37 = some (.iload_n 3, 1) := cg118_28.2.2.2.2.1
theorem c118_38 : mc_cd 118 38 = some (.ifCond .eq 15, 3) := cg118_28.2.2.2.2.2.1
theorem c118_41 : mc_cd 118 41 = some (.aload_n 1, 1) := cg118_28.2.2.2.2.2.2.1
theorem c118_42 : mc_cd 118 42 = some (.iload 5, 2) := cg118_28.2.2.2.2.2.2.2
theorem cg118_44 : mc_cd 118 44 = some (.iaload, 1) ∧ mc_cd 118 45 = some (.iload 4, 2) ∧ mc_cd 118 47 = some (.if_icmp .le 21, 3) ∧ mc_cd 118 50 = some (.goto 12, 3) ∧ mc_cd 118 53 = some (.aload_n 1, 1) ∧ mc_cd 118 54 = some (.iload 5, 2) ∧ mc_cd 118 56 = some (.iaload, 1) ∧ mc_cd 118 57 = some (.iload 4, 2) := by decide +kernel
theorem c118_44 : mc_cd 118 44 = some (.iaload, 1) := cg118_44.1
theorem c118_45 : mc_cd 118 45 = some (.iload 4, 2) := cg118_44.2.1
theorem c118_47 : mc_cd 118 47 = some (.if_icmp .le 21, 3) := cg118_44.2.2.1
theorem c118_50 : mc_cd 118 50 = some (.goto 12, 3) := cg118_44.2.2.2.1
theorem c118_53 : mc_cd 118 53 = some (.aload_n 1, 1) := cg118_44.2.2.2.2.1
theorem c118_54 : mc_cd 118 54 = some (.iload 5, 2) := cg118_44.2.2.2.2.2.1
theorem c118_56 : mc_cd 118 56 = some (.iaload, 1) := cg118_44.2.2.2.2.2.2.1
theorem c118_57 : mc_cd 118 57 = some (.iload 4, 2) := cg118_44.2.2.2.2.2.2.2
theorem cg118_59 : mc_cd 118 59 = some (.if_icmp .ge 9, 3) ∧ mc_cd 118 62 = some (.aload_n 1, 1) ∧ mc_cd 118 63 = some (.iload 5, 2) ∧ mc_cd 118 65 = some (.iaload, 1) ∧ mc_cd 118 66 = some (.istore 4, 2) ∧ mc_cd 118 68 = some (.iinc 5 1, 3) ∧ mc_cd 118 71 = some (.goto (-65), 3) ∧ mc_cd 118 74 = some (.iload 4, 2) := by decide +kernel
theorem c118_59 : mc_cd 118 59 = some (.if_icmp .ge 9, 3) := cg118_59.1
theorem c118_62 : mc_cd 118 62 = some (.aload_n 1, 1) := cg118_59.2.1
theorem c118_63 : mc_cd 118 63 = some (.iload 5, 2) := cg118_59.2.2.1
theorem c118_65 : mc_cd 118 65 = some (.iaload, 1) := cg118_59.2.2.2.1
theorem c118_66 : mc_cd 118 66 = some (.istore 4, 2) := cg118_59.2.2.2.2.1
theorem c118_68 : mc_cd 118 68 = some (.iinc 5 1, 3) := cg118_59.2.2.2.2.2.1
theorem c118_71 : mc_cd 118 71 = some (.goto (-65), 3) := cg118_59.2.2.2.2.2.2.1
theorem c118_74 : mc_cd 118 74 = some (.iload 4, 2) := cg118_59.2.2.2.2.2.2.2
theorem c118_76 : mc_cd 118 76 = some (.ireturn, 1) := by decide +kernel
abbrev q_118_b (r0 : Nat) (r1 : Nat) (a2 : Int) (a3 : Int) (T : wq_T) (H : wq_H) : Option Value → wq_T → wq_H → Prop := fun r T' H' => T = T' ∧ H = H' ∧ ∃ z : Int, some (vI z) = r ∧ ((-2147483648) ≤ z ∧ z ≤ 2147483647)
set_option maxHeartbeats 4000000 in
theorem s_118_b {kt : Nat → Option mc_E} {T : wq_T} {H : wq_H} {r0 : Nat} {r1 : Nat} {a2 : Int} {a3 : Int} (hW : WT T H) (g0 : T.2.2.2 r0 = some 12) (g1 : T.2.2.2 r1 = some 36) (i2 : 0 ≤ a2 ∧ a2 ≤ 5) (i3 : 0 ≤ a3 ∧ a3 ≤ 1) : wpc kt 1 118 [.ref r0, .ref r1, vI a2, vI a3] T H (q_118_b r0 r1 a2 a3 T H) := by
  refine wp_enter e118 (Nat.le_of_ble_eq_true rfl) rfl ?_
  show wp _ _ 118 0 [(0, .ref r0), (1, .ref r1), (2, vI a2), (3, vI a3)] [] _ H _
  refine wp_of e118 c118_0 (rw_iconst (pc' := 1) rfl ?_)
  refine wp_of e118 c118_1 (rw_istore (pc' := 3) (z := -1) (L' := [(4, vI (-1)), (0, .ref r0), (1, .ref r1), (2, vI a2), (3, vI a3)]) rfl rfl rfl ?_)
  refine wp_of e118 c118_3 (rw_iconst (pc' := 4) rfl ?_)
  refine wp_of e118 c118_4 (rw_istore (pc' := 6) (z := 0) (L' := [(5, vI 0), (4, vI (-1)), (0, .ref r0), (1, .ref r1), (2, vI a2), (3, vI a3)]) rfl rfl rfl ?_)
  have lp34841 : ∀ (n34842 : Nat) (v34844 : Int) (v34845 : Int), (0 ≤ v34844 ∧ v34844 ≤ 40) → ((-1) ≤ v34845 ∧ v34845 ≤ 24) → (40 - v34844).toNat = n34842 → wp kt 0 118 6 [(5, vI v34844), (4, vI v34845), (0, .ref r0), (1, .ref r1), (2, vI a2), (3, vI a3)] [] T H (q_118_b r0 r1 a2 a3 T H) := by
    intro n34842
    induction n34842 using Nat.strongRecOn with
    | _ n34842 ih34843 =>
      intro v34844 v34845 b34848 b34849 m34850
      refine wp_of e118 c118_6 (rw_iload (pc' := 8) (z := v34844) rfl rfl ?_)
      refine wp_of e118 c118_8 (rw_bipush (pc' := 10) (z := 40) rfl (by decide) ?_)
      refine wp_of e118 c118_10 (rw_icmp_ge (p1 := 74) (p2 := 13) (by decide) rfl ⟨by omega, by omega⟩ ⟨by omega, by omega⟩ (fun c34851 => ?_) (fun c34851 => ?_))
      · refine wp_of e118 c118_74 (rw_iload (pc' := 76) (z := v34845) rfl rfl ?_)
        exact wp_ireturn e118 c118_76 rfl ⟨rfl, rfl, v34845, rfl, ⟨by omega, by omega⟩⟩
      · refine wp_of e118 c118_13 (rw_iload (pc' := 15) (z := v34844) rfl rfl ?_)
        refine wp_of e118 c118_15 (rw_aload_n (pc' := 16) (v := .ref r1) rfl rfl rfl ?_)
        refine wp_of e118 c118_16 (xa_N (pc' := 17) (n := 40) hW g1 sh_36 (by decide) rfl ?_)
        refine wp_of e118 c118_17 (rw_icmp_ge (p1 := 74) (p2 := 20) (by decide) rfl ⟨by omega, by omega⟩ ⟨by omega, by omega⟩ (fun c34852 => ?_) (fun c34852 => ?_))
        · exfalso
          omega
        · refine wp_of e118 c118_20 (rw_aload_n (pc' := 21) (v := .ref r0) rfl rfl rfl ?_)
          refine wp_of e118 c118_21 (xg_R (pc' := 24) lf_4_17 hW g0 sh_12 (by decide) (by decide) ty_12_1 rfl rfl (fun r34853 q34854 g34855 => ?_))
          refine wp_of e118 c118_24 (rw_iload_n (pc' := 25) (z := a2) rfl rfl ?_)
          refine wp_of e118 c118_25 (xa_R (pc' := 26) (by decide) hW g34855 sh_14 (by decide) (ty_14 _) (by omega) (by omega) rfl (fun r34856 q34857 g34858 => ?_))
          refine wp_of e118 c118_26 (rw_iload (pc' := 28) (z := v34844) rfl rfl ?_)
          refine wp_of e118 c118_28 (xa_I (so := 0) (pc' := 29) hW g34858 sh_15 (by decide) (ty_15 _) (by omega) (by omega) rfl (fun b34859 b34860 => ?_))
          refine wp_of e118 c118_29 (rw_if_le (p1 := 68) (p2 := 32) (by decide) rfl ⟨by omega, by omega⟩ (fun c34861 => ?_) (fun c34861 => ?_))
          · refine wp_of e118 c118_68 (rw_iinc (pc' := 71) (z := v34844) (L' := [(5, vI (v34844 + 1)), (4, vI v34845), (0, .ref r0), (1, .ref r1), (2, vI a2), (3, vI a3)]) rfl rfl rfl rfl ?_)
            refine wp_of e118 c118_71 (rw_goto (p1 := 6) (by decide) ?_)
            exact wp_lc (ks := [5, 4, 0, 1, 2, 3]) (wl_c rfl (wl_c rfl (wl_c rfl (wl_c rfl (wl_c rfl (wl_c rfl wl_n)))))) rfl (by decide) (ih34843 _ (by omega) (v34844 + 1) v34845 ⟨by omega, by omega⟩ ⟨by omega, by omega⟩ rfl)
          · refine wp_of e118 c118_32 (rw_iload (pc' := 34) (z := v34845) rfl rfl ?_)
            refine wp_of e118 c118_34 (rw_if_lt (p1 := 62) (p2 := 37) (by decide) rfl ⟨by omega, by omega⟩ (fun c34862 => ?_) (fun c34862 => ?_))
            · refine wp_of e118 c118_62 (rw_aload_n (pc' := 63) (v := .ref r1) rfl rfl rfl ?_)
              refine wp_of e118 c118_63 (rw_iload (pc' := 65) (z := v34844) rfl rfl ?_)
              refine wp_of e118 c118_65 (xa_I (so := 0) (pc' := 66) hW g1 sh_36 (by decide) (ty_36 _) (by omega) (by omega) rfl (fun b34863 b34864 => ?_))
              refine wp_of e118 c118_66 (rw_istore (pc' := 68) (z := H r1 (v34844.toNat)) (L' := [(4, vI (H r1 (v34844.toNat))), (5, vI v34844), (0, .ref r0), (1, .ref r1), (2, vI a2), (3, vI a3)]) rfl rfl rfl ?_)
              refine wp_of e118 c118_68 (rw_iinc (pc' := 71) (z := v34844) (L' := [(5, vI (v34844 + 1)), (4, vI (H r1 (v34844.toNat))), (0, .ref r0), (1, .ref r1), (2, vI a2), (3, vI a3)]) rfl rfl rfl rfl ?_)
              refine wp_of e118 c118_71 (rw_goto (p1 := 6) (by decide) ?_)
              exact wp_lc (ks := [5, 4, 0, 1, 2, 3]) (wl_c rfl (wl_c rfl (wl_c rfl (wl_c rfl (wl_c rfl (wl_c rfl wl_n)))))) rfl (by decide) (ih34843 _ (by omega) (v34844 + 1) (H r1 (v34844.toNat)) ⟨by omega, by omega⟩ ⟨by omega, by omega⟩ rfl)
            · refine wp_of e118 c118_37 (rw_iload_n (pc' := 38) (z := a3) rfl rfl ?_)
              refine wp_of e118 c118_38 (rw_if_eq (p1 := 53) (p2 := 41) (by decide) rfl ⟨by omega, by omega⟩ (fun c34865 => ?_) (fun c34865 => ?_))
              · refine wp_of e118 c118_53 (rw_aload_n (pc' := 54) (v := .ref r1) rfl rfl rfl ?_)
                refine wp_of e118 c118_54 (rw_iload (pc' := 56) (z := v34844) rfl rfl ?_)
                refine wp_of e118 c118_56 (xa_I (so := 0) (pc' := 57) hW g1 sh_36 (by decide) (ty_36 _) (by omega) (by omega) rfl (fun b34866 b34867 => ?_))
                refine wp_of e118 c118_57 (rw_iload (pc' := 59) (z := v34845) rfl rfl ?_)
                refine wp_of e118 c118_59 (rw_icmp_ge (p1 := 68) (p2 := 62) (by decide) rfl ⟨by omega, by omega⟩ ⟨by omega, by omega⟩ (fun c34868 => ?_) (fun c34868 => ?_))
                · refine wp_of e118 c118_68 (rw_iinc (pc' := 71) (z := v34844) (L' := [(5, vI (v34844 + 1)), (4, vI v34845), (0, .ref r0), (1, .ref r1), (2, vI a2), (3, vI a3)]) rfl rfl rfl rfl ?_)
                  refine wp_of e118 c118_71 (rw_goto (p1 := 6) (by decide) ?_)
                  exact wp_lc (ks := [5, 4, 0, 1, 2, 3]) (wl_c rfl (wl_c rfl (wl_c rfl (wl_c rfl (wl_c rfl (wl_c rfl wl_n)))))) rfl (by decide) (ih34843 _ (by omega) (v34844 + 1) v34845 ⟨by omega, by omega⟩ ⟨by omega, by omega⟩ rfl)
                · refine wp_of e118 c118_62 (rw_aload_n (pc' := 63) (v := .ref r1) rfl rfl rfl ?_)
                  refine wp_of e118 c118_63 (rw_iload (pc' := 65) (z := v34844) rfl rfl ?_)
                  refine wp_of e118 c118_65 (xa_I (so := 0) (pc' := 66) hW g1 sh_36 (by decide) (ty_36 _) (by omega) (by omega) rfl (fun b34869 b34870 => ?_))
                  refine wp_of e118 c118_66 (rw_istore (pc' := 68) (z := H r1 (v34844.toNat)) (L' := [(4, vI (H r1 (v34844.toNat))), (5, vI v34844), (0, .ref r0), (1, .ref r1), (2, vI a2), (3, vI a3)]) rfl rfl rfl ?_)
                  refine wp_of e118 c118_68 (rw_iinc (pc' := 71) (z := v34844) (L' := [(5, vI (v34844 + 1)), (4, vI (H r1 (v34844.toNat))), (0, .ref r0), (1, .ref r1), (2, vI a2), (3, vI a3)]) rfl rfl rfl rfl ?_)
                  refine wp_of e118 c118_71 (rw_goto (p1 := 6) (by decide) ?_)
                  exact wp_lc (ks := [5, 4, 0, 1, 2, 3]) (wl_c rfl (wl_c rfl (wl_c rfl (wl_c rfl (wl_c rfl (wl_c rfl wl_n)))))) rfl (by decide) (ih34843 _ (by omega) (v34844 + 1) (H r1 (v34844.toNat)) ⟨by omega, by omega⟩ ⟨by omega, by omega⟩ rfl)
              · refine wp_of e118 c118_41 (rw_aload_n (pc' := 42) (v := .ref r1) rfl rfl rfl ?_)
                refine wp_of e118 c118_42 (rw_iload (pc' := 44) (z := v34844) rfl rfl ?_)
                refine wp_of e118 c118_44 (xa_I (so := 0) (pc' := 45) hW g1 sh_36 (by decide) (ty_36 _) (by omega) (by omega) rfl (fun b34871 b34872 => ?_))
                refine wp_of e118 c118_45 (rw_iload (pc' := 47) (z := v34845) rfl rfl ?_)
                refine wp_of e118 c118_47 (rw_icmp_le (p1 := 68) (p2 := 50) (by decide) rfl ⟨by omega, by omega⟩ ⟨by omega, by omega⟩ (fun c34873 => ?_) (fun c34873 => ?_))
                · refine wp_of e118 c118_68 (rw_iinc (pc' := 71) (z := v34844) (L' := [(5, vI (v34844 + 1)), (4, vI v34845), (0, .ref r0), (1, .ref r1), (2, vI a2), (3, vI a3)]) rfl rfl rfl rfl ?_)
                  refine wp_of e118 c118_71 (rw_goto (p1 := 6) (by decide) ?_)
                  exact wp_lc (ks := [5, 4, 0, 1, 2, 3]) (wl_c rfl (wl_c rfl (wl_c rfl (wl_c rfl (wl_c rfl (wl_c rfl wl_n)))))) rfl (by decide) (ih34843 _ (by omega) (v34844 + 1) v34845 ⟨by omega, by omega⟩ ⟨by omega, by omega⟩ rfl)
                · refine wp_of e118 c118_50 (rw_goto (p1 := 62) (by decide) ?_)
                  refine wp_of e118 c118_62 (rw_aload_n (pc' := 63) (v := .ref r1) rfl rfl rfl ?_)
                  refine wp_of e118 c118_63 (rw_iload (pc' := 65) (z := v34844) rfl rfl ?_)
                  refine wp_of e118 c118_65 (xa_I (so := 0) (pc' := 66) hW g1 sh_36 (by decide) (ty_36 _) (by omega) (by omega) rfl (fun b34874 b34875 => ?_))
                  refine wp_of e118 c118_66 (rw_istore (pc' := 68) (z := H r1 (v34844.toNat)) (L' := [(4, vI (H r1 (v34844.toNat))), (5, vI v34844), (0, .ref r0), (1, .ref r1), (2, vI a2), (3, vI a3)]) rfl rfl rfl ?_)
                  refine wp_of e118 c118_68 (rw_iinc (pc' := 71) (z := v34844) (L' := [(5, vI (v34844 + 1)), (4, vI (H r1 (v34844.toNat))), (0, .ref r0), (1, .ref r1), (2, vI a2), (3, vI a3)]) rfl rfl rfl rfl ?_)
                  refine wp_of e118 c118_71 (rw_goto (p1 := 6) (by decide) ?_)
                  exact wp_lc (ks := [5, 4, 0, 1, 2, 3]) (wl_c rfl (wl_c rfl (wl_c rfl (wl_c rfl (wl_c rfl (wl_c rfl wl_n)))))) rfl (by decide) (ih34843 _ (by omega) (v34844 + 1) (H r1 (v34844.toNat)) ⟨by omega, by omega⟩ ⟨by omega, by omega⟩ rfl)
  exact wp_lc (ks := [5, 4, 0, 1, 2, 3]) (wl_c rfl (wl_c rfl (wl_c rfl (wl_c rfl (wl_c rfl (wl_c rfl wl_n)))))) rfl (by decide) (lp34841 _ 0 (-1) ⟨by omega, by omega⟩ ⟨by omega, by omega⟩ rfl)

/-! StrikeAwake$Census.outermost([IIZ)I -/
abbrev q_118_s (r0 : Nat) (r1 : Nat) (a2 : Int) (a3 : Int) (T : wq_T) (H : wq_H) : Option Value → wq_T → wq_H → Prop := fun r T' H' => T = T' ∧ H = H' ∧ ∃ z : Int, some (vI z) = r ∧ ((-2147483648) ≤ z ∧ z ≤ 2147483647)
set_option maxHeartbeats 4000000 in
theorem s_118_s {kt : Nat → Option mc_E} {T : wq_T} {H : wq_H} {r0 : Nat} {r1 : Nat} {a2 : Int} {a3 : Int} (hW : WT T H) (g0 : T.2.2.2 r0 = some 12) (g1 : T.2.2.2 r1 = some 37) (i2 : 0 ≤ a2 ∧ a2 ≤ 5) (i3 : 0 ≤ a3 ∧ a3 ≤ 1) : wpc kt 1 118 [.ref r0, .ref r1, vI a2, vI a3] T H (q_118_s r0 r1 a2 a3 T H) := by
  refine wp_enter e118 (Nat.le_of_ble_eq_true rfl) rfl ?_
  show wp _ _ 118 0 [(0, .ref r0), (1, .ref r1), (2, vI a2), (3, vI a3)] [] _ H _
  refine wp_of e118 c118_0 (rw_iconst (pc' := 1) rfl ?_)
  refine wp_of e118 c118_1 (rw_istore (pc' := 3) (z := -1) (L' := [(4, vI (-1)), (0, .ref r0), (1, .ref r1), (2, vI a2), (3, vI a3)]) rfl rfl rfl ?_)
  refine wp_of e118 c118_3 (rw_iconst (pc' := 4) rfl ?_)
  refine wp_of e118 c118_4 (rw_istore (pc' := 6) (z := 0) (L' := [(5, vI 0), (4, vI (-1)), (0, .ref r0), (1, .ref r1), (2, vI a2), (3, vI a3)]) rfl rfl rfl ?_)
  have lp35280 : ∀ (n35281 : Nat) (v35283 : Int) (v35284 : Int), (0 ≤ v35283 ∧ v35283 ≤ 40) → ((-1) ≤ v35284 ∧ v35284 ≤ 24) → (40 - v35283).toNat = n35281 → wp kt 0 118 6 [(5, vI v35283), (4, vI v35284), (0, .ref r0), (1, .ref r1), (2, vI a2), (3, vI a3)] [] T H (q_118_s r0 r1 a2 a3 T H) := by
    intro n35281
    induction n35281 using Nat.strongRecOn with
    | _ n35281 ih35282 =>
      intro v35283 v35284 b35287 b35288 m35289
      refine wp_of e118 c118_6 (rw_iload (pc' := 8) (z := v35283) rfl rfl ?_)
      refine wp_of e118 c118_8 (rw_bipush (pc' := 10) (z := 40) rfl (by decide) ?_)
      refine wp_of e118 c118_10 (rw_icmp_ge (p1 := 74) (p2 := 13) (by decide) rfl ⟨by omega, by omega⟩ ⟨by omega, by omega⟩ (fun c35290 => ?_) (fun c35290 => ?_))
      · refine wp_of e118 c118_74 (rw_iload (pc' := 76) (z := v35284) rfl rfl ?_)
        exact wp_ireturn e118 c118_76 rfl ⟨rfl, rfl, v35284, rfl, ⟨by omega, by omega⟩⟩
      · refine wp_of e118 c118_13 (rw_iload (pc' := 15) (z := v35283) rfl rfl ?_)
        refine wp_of e118 c118_15 (rw_aload_n (pc' := 16) (v := .ref r1) rfl rfl rfl ?_)
        refine wp_of e118 c118_16 (xa_N (pc' := 17) (n := 40) hW g1 sh_37 (by decide) rfl ?_)
        refine wp_of e118 c118_17 (rw_icmp_ge (p1 := 74) (p2 := 20) (by decide) rfl ⟨by omega, by omega⟩ ⟨by omega, by omega⟩ (fun c35291 => ?_) (fun c35291 => ?_))
        · exfalso
          omega
        · refine wp_of e118 c118_20 (rw_aload_n (pc' := 21) (v := .ref r0) rfl rfl rfl ?_)
          refine wp_of e118 c118_21 (xg_R (pc' := 24) lf_4_17 hW g0 sh_12 (by decide) (by decide) ty_12_1 rfl rfl (fun r35292 q35293 g35294 => ?_))
          refine wp_of e118 c118_24 (rw_iload_n (pc' := 25) (z := a2) rfl rfl ?_)
          refine wp_of e118 c118_25 (xa_R (pc' := 26) (by decide) hW g35294 sh_14 (by decide) (ty_14 _) (by omega) (by omega) rfl (fun r35295 q35296 g35297 => ?_))
          refine wp_of e118 c118_26 (rw_iload (pc' := 28) (z := v35283) rfl rfl ?_)
          refine wp_of e118 c118_28 (xa_I (so := 0) (pc' := 29) hW g35297 sh_15 (by decide) (ty_15 _) (by omega) (by omega) rfl (fun b35298 b35299 => ?_))
          refine wp_of e118 c118_29 (rw_if_le (p1 := 68) (p2 := 32) (by decide) rfl ⟨by omega, by omega⟩ (fun c35300 => ?_) (fun c35300 => ?_))
          · refine wp_of e118 c118_68 (rw_iinc (pc' := 71) (z := v35283) (L' := [(5, vI (v35283 + 1)), (4, vI v35284), (0, .ref r0), (1, .ref r1), (2, vI a2), (3, vI a3)]) rfl rfl rfl rfl ?_)
            refine wp_of e118 c118_71 (rw_goto (p1 := 6) (by decide) ?_)
            exact wp_lc (ks := [5, 4, 0, 1, 2, 3]) (wl_c rfl (wl_c rfl (wl_c rfl (wl_c rfl (wl_c rfl (wl_c rfl wl_n)))))) rfl (by decide) (ih35282 _ (by omega) (v35283 + 1) v35284 ⟨by omega, by omega⟩ ⟨by omega, by omega⟩ rfl)
          · refine wp_of e118 c118_32 (rw_iload (pc' := 34) (z := v35284) rfl rfl ?_)
            refine wp_of e118 c118_34 (rw_if_lt (p1 := 62) (p2 := 37) (by decide) rfl ⟨by omega, by omega⟩ (fun c35301 => ?_) (fun c35301 => ?_))
            · refine wp_of e118 c118_62 (rw_aload_n (pc' := 63) (v := .ref r1) rfl rfl rfl ?_)
              refine wp_of e118 c118_63 (rw_iload (pc' := 65) (z := v35283) rfl rfl ?_)
              refine wp_of e118 c118_65 (xa_I (so := 0) (pc' := 66) hW g1 sh_37 (by decide) (ty_37 _) (by omega) (by omega) rfl (fun b35302 b35303 => ?_))
              refine wp_of e118 c118_66 (rw_istore (pc' := 68) (z := H r1 (v35283.toNat)) (L' := [(4, vI (H r1 (v35283.toNat))), (5, vI v35283), (0, .ref r0), (1, .ref r1), (2, vI a2), (3, vI a3)]) rfl rfl rfl ?_)
              refine wp_of e118 c118_68 (rw_iinc (pc' := 71) (z := v35283) (L' := [(5, vI (v35283 + 1)), (4, vI (H r1 (v35283.toNat))), (0, .ref r0), (1, .ref r1), (2, vI a2), (3, vI a3)]) rfl rfl rfl rfl ?_)
              refine wp_of e118 c118_71 (rw_goto (p1 := 6) (by decide) ?_)
              exact wp_lc (ks := [5, 4, 0, 1, 2, 3]) (wl_c rfl (wl_c rfl (wl_c rfl (wl_c rfl (wl_c rfl (wl_c rfl wl_n)))))) rfl (by decide) (ih35282 _ (by omega) (v35283 + 1) (H r1 (v35283.toNat)) ⟨by omega, by omega⟩ ⟨by omega, by omega⟩ rfl)
            · refine wp_of e118 c118_37 (rw_iload_n (pc' := 38) (z := a3) rfl rfl ?_)
              refine wp_of e118 c118_38 (rw_if_eq (p1 := 53) (p2 := 41) (by decide) rfl ⟨by omega, by omega⟩ (fun c35304 => ?_) (fun c35304 => ?_))
              · refine wp_of e118 c118_53 (rw_aload_n (pc' := 54) (v := .ref r1) rfl rfl rfl ?_)
                refine wp_of e118 c118_54 (rw_iload (pc' := 56) (z := v35283) rfl rfl ?_)
                refine wp_of e118 c118_56 (xa_I (so := 0) (pc' := 57) hW g1 sh_37 (by decide) (ty_37 _) (by omega) (by omega) rfl (fun b35305 b35306 => ?_))
                refine wp_of e118 c118_57 (rw_iload (pc' := 59) (z := v35284) rfl rfl ?_)
                refine wp_of e118 c118_59 (rw_icmp_ge (p1 := 68) (p2 := 62) (by decide) rfl ⟨by omega, by omega⟩ ⟨by omega, by omega⟩ (fun c35307 => ?_) (fun c35307 => ?_))
                · refine wp_of e118 c118_68 (rw_iinc (pc' := 71) (z := v35283) (L' := [(5, vI (v35283 + 1)), (4, vI v35284), (0, .ref r0), (1, .ref r1), (2, vI a2), (3, vI a3)]) rfl rfl rfl rfl ?_)
                  refine wp_of e118 c118_71 (rw_goto (p1 := 6) (by decide) ?_)
                  exact wp_lc (ks := [5, 4, 0, 1, 2, 3]) (wl_c rfl (wl_c rfl (wl_c rfl (wl_c rfl (wl_c rfl (wl_c rfl wl_n)))))) rfl (by decide) (ih35282 _ (by omega) (v35283 + 1) v35284 ⟨by omega, by omega⟩ ⟨by omega, by omega⟩ rfl)
                · refine wp_of e118 c118_62 (rw_aload_n (pc' := 63) (v := .ref r1) rfl rfl rfl ?_)
                  refine wp_of e118 c118_63 (rw_iload (pc' := 65) (z := v35283) rfl rfl ?_)
                  refine wp_of e118 c118_65 (xa_I (so := 0) (pc' := 66) hW g1 sh_37 (by decide) (ty_37 _) (by omega) (by omega) rfl (fun b35308 b35309 => ?_))
                  refine wp_of e118 c118_66 (rw_istore (pc' := 68) (z := H r1 (v35283.toNat)) (L' := [(4, vI (H r1 (v35283.toNat))), (5, vI v35283), (0, .ref r0), (1, .ref r1), (2, vI a2), (3, vI a3)]) rfl rfl rfl ?_)
                  refine wp_of e118 c118_68 (rw_iinc (pc' := 71) (z := v35283) (L' := [(5, vI (v35283 + 1)), (4, vI (H r1 (v35283.toNat))), (0, .ref r0), (1, .ref r1), (2, vI a2), (3, vI a3)]) rfl rfl rfl rfl ?_)
                  refine wp_of e118 c118_71 (rw_goto (p1 := 6) (by decide) ?_)
                  exact wp_lc (ks := [5, 4, 0, 1, 2, 3]) (wl_c rfl (wl_c rfl (wl_c rfl (wl_c rfl (wl_c rfl (wl_c rfl wl_n)))))) rfl (by decide) (ih35282 _ (by omega) (v35283 + 1) (H r1 (v35283.toNat)) ⟨by omega, by omega⟩ ⟨by omega, by omega⟩ rfl)
              · refine wp_of e118 c118_41 (rw_aload_n (pc' := 42) (v := .ref r1) rfl rfl rfl ?_)
                refine wp_of e118 c118_42 (rw_iload (pc' := 44) (z := v35283) rfl rfl ?_)
                refine wp_of e118 c118_44 (xa_I (so := 0) (pc' := 45) hW g1 sh_37 (by decide) (ty_37 _) (by omega) (by omega) rfl (fun b35310 b35311 => ?_))
                refine wp_of e118 c118_45 (rw_iload (pc' := 47) (z := v35284) rfl rfl ?_)
                refine wp_of e118 c118_47 (rw_icmp_le (p1 := 68) (p2 := 50) (by decide) rfl ⟨by omega, by omega⟩ ⟨by omega, by omega⟩ (fun c35312 => ?_) (fun c35312 => ?_))
                · refine wp_of e118 c118_68 (rw_iinc (pc' := 71) (z := v35283) (L' := [(5, vI (v35283 + 1)), (4, vI v35284), (0, .ref r0), (1, .ref r1), (2, vI a2), (3, vI a3)]) rfl rfl rfl rfl ?_)
                  refine wp_of e118 c118_71 (rw_goto (p1 := 6) (by decide) ?_)
                  exact wp_lc (ks := [5, 4, 0, 1, 2, 3]) (wl_c rfl (wl_c rfl (wl_c rfl (wl_c rfl (wl_c rfl (wl_c rfl wl_n)))))) rfl (by decide) (ih35282 _ (by omega) (v35283 + 1) v35284 ⟨by omega, by omega⟩ ⟨by omega, by omega⟩ rfl)
                · refine wp_of e118 c118_50 (rw_goto (p1 := 62) (by decide) ?_)
                  refine wp_of e118 c118_62 (rw_aload_n (pc' := 63) (v := .ref r1) rfl rfl rfl ?_)
                  refine wp_of e118 c118_63 (rw_iload (pc' := 65) (z := v35283) rfl rfl ?_)
                  refine wp_of e118 c118_65 (xa_I (so := 0) (pc' := 66) hW g1 sh_37 (by decide) (ty_37 _) (by omega) (by omega) rfl (fun b35313 b35314 => ?_))
                  refine wp_of e118 c118_66 (rw_istore (pc' := 68) (z := H r1 (v35283.toNat)) (L' := [(4, vI (H r1 (v35283.toNat))), (5, vI v35283), (0, .ref r0), (1, .ref r1), (2, vI a2), (3, vI a3)]) rfl rfl rfl ?_)
                  refine wp_of e118 c118_68 (rw_iinc (pc' := 71) (z := v35283) (L' := [(5, vI (v35283 + 1)), (4, vI (H r1 (v35283.toNat))), (0, .ref r0), (1, .ref r1), (2, vI a2), (3, vI a3)]) rfl rfl rfl rfl ?_)
                  refine wp_of e118 c118_71 (rw_goto (p1 := 6) (by decide) ?_)
                  exact wp_lc (ks := [5, 4, 0, 1, 2, 3]) (wl_c rfl (wl_c rfl (wl_c rfl (wl_c rfl (wl_c rfl (wl_c rfl wl_n)))))) rfl (by decide) (ih35282 _ (by omega) (v35283 + 1) (H r1 (v35283.toNat)) ⟨by omega, by omega⟩ ⟨by omega, by omega⟩ rfl)
  exact wp_lc (ks := [5, 4, 0, 1, 2, 3]) (wl_c rfl (wl_c rfl (wl_c rfl (wl_c rfl (wl_c rfl (wl_c rfl wl_n)))))) rfl (by decide) (lp35280 _ 0 (-1) ⟨by omega, by omega⟩ ⟨by omega, by omega⟩ rfl)
/-! StrikeAwake.bed(IZ)I -/
theorem e117 : wq_en 117 = some (0, 4, false, some FieldType.int) := rfl
theorem cg117_0 : mc_cd 117 0 = some (.aload_n 0, 1) ∧ mc_cd 117 1 = some (.aload_n 0, 1) ∧ mc_cd 117 2 = some (.iload_n 1, 1) ∧ mc_cd 117 3 = some (.invokevirtual 105, 3) ∧ mc_cd 117 6 = some (.invokevirtual 198, 3) ∧ mc_cd 117 9 = some (.istore_n 3, 1) ∧ mc_cd 117 10 = some (.iload_n 3, 1) ∧ mc_cd 117 11 = some (.ifCond .eq 9, 3) := by decide +kernel
theorem c117_0 : mc_cd 117 0 = some (.aload_n 0, 1) := cg117_0.1
theorem c117_1 : mc_cd 117 1 = some (.aload_n 0, 1) := cg117_0.2.1
theorem c117_2 : mc_cd 117 2 = some (.iload_n 1, 1) := cg117_0.2.2.1
theorem c117_3 : mc_cd 117 3 = some (.invokevirtual 105, 3) := cg117_0.2.2.2.1
theorem c117_6 : mc_cd 117 6 = some (.invokevirtual 198, 3) := cg117_0.2.2.2.2.1
theorem c117_9 : mc_cd 117 9 = some (.istore_n 3, 1) := cg117_0.2.2.2.2.2.1
theorem c117_10 : mc_cd 117 10 = some (.iload_n 3, 1) := cg117_0.2.2.2.2.2.2.1
theorem c117_11 : mc_cd 117 11 = some (.ifCond .eq 9, 3) := cg117_0.2.2.2.2.2.2.2
theorem cg117_14 : mc_cd 117 14 = some (.aload_n 0, 1) ∧ mc_cd 117 15 = some (.iload_n 3, 1) ∧ mc_cd 117 16 = some (.invokevirtual 70, 3) ∧ mc_cd 117 19 = some (.ireturn, 1) ∧ mc_cd 117 20 = some (.aload_n 0, 1) ∧ mc_cd 117 21 = some (.aload_n 0, 1) ∧ mc_cd 117 22 = some (.getfield 30, 3) ∧ mc_cd 117 25 = some (.aload_n 0, 1) := by decide +kernel
theorem c117_14 : mc_cd 117 14 = some (.aload_n 0, 1) := cg117_14.1
theorem c117_15 : mc_cd 117 15 = some (.iload_n 3, 1) := cg117_14.2.1
theorem c117_16 : mc_cd 117 16 = some (.invokevirtual 70, 3) := cg117_14.2.2.1
theorem c117_19 : mc_cd 117 19 = some (.ireturn, 1) := cg117_14.2.2.2.1
theorem c117_20 : mc_cd 117 20 = some (.aload_n 0, 1) := cg117_14.2.2.2.2.1
theorem c117_21 : mc_cd 117 21 = some (.aload_n 0, 1) := cg117_14.2.2.2.2.2.1
theorem c117_22 : mc_cd 117 22 = some (.getfield 30, 3) := cg117_14.2.2.2.2.2.2.1
theorem c117_25 : mc_cd 117 25 = some (.aload_n 0, 1) := cg117_14.2.2.2.2.2.2.2
theorem cg117_26 : mc_cd 117 26 = some (.getfield 51, 3) ∧ mc_cd 117 29 = some (.getfield 109, 3) ∧ mc_cd 117 32 = some (.iload_n 1, 1) ∧ mc_cd 117 33 = some (.aaload, 1) ∧ mc_cd 117 34 = some (.getfield 125, 3) ∧ mc_cd 117 37 = some (.iload_n 1, 1) ∧ mc_cd 117 38 = some (.iload_n 2, 1) ∧ mc_cd 117 39 = some (.invokevirtual 223, 3) := by decide +kernel
theorem c117_26 : mc_cd 117 26 = some (.getfield 51, 3) := cg117_26.1
theorem c117_29 : mc_cd 117 29 = some (.getfield 109, 3) := cg117_26.2.1
theorem c117_32 : mc_cd 117 32 = some (.iload_n 1, 1) := cg117_26.2.2.1
theorem c117_33 : mc_cd 117 33 = some (.aaload, 1) := cg117_26.2.2.2.1
theorem c117_34 : mc_cd 117 34 = some (.getfield 125, 3) := cg117_26.2.2.2.2.1
theorem c117_37 : mc_cd 117 37 = some (.iload_n 1, 1) := cg117_26.2.2.2.2.2.1
theorem c117_38 : mc_cd 117 38 = some (.iload_n 2, 1) := cg117_26.2.2.2.2.2.2.1
theorem c117_39 : mc_cd 117 39 = some (.invokevirtual 223, 3) := cg117_26.2.2.2.2.2.2.2
theorem cg117_42 : mc_cd 117 42 = some (.invokevirtual 99, 3) ∧ mc_cd 117 45 = some (.ireturn, 1) := by decide +kernel
theorem c117_42 : mc_cd 117 42 = some (.invokevirtual 99, 3) := cg117_42.1
theorem c117_45 : mc_cd 117 45 = some (.ireturn, 1) := cg117_42.2
/-! StrikeAwake.sleeps(IZ)I -/
theorem e119 : wq_en 119 = some (0, 4, false, some FieldType.int) := rfl
theorem cg119_0 : mc_cd 119 0 = some (.aload_n 0, 1) ∧ mc_cd 119 1 = some (.aload_n 0, 1) ∧ mc_cd 119 2 = some (.iload_n 1, 1) ∧ mc_cd 119 3 = some (.invokevirtual 105, 3) ∧ mc_cd 119 6 = some (.invokevirtual 198, 3) ∧ mc_cd 119 9 = some (.istore_n 3, 1) ∧ mc_cd 119 10 = some (.iload_n 3, 1) ∧ mc_cd 119 11 = some (.ifCond .eq 9, 3) := by decide +kernel
theorem c119_0 : mc_cd 119 0 = some (.aload_n 0, 1) := cg119_0.1
theorem c119_1 : mc_cd 119 1 = some (.aload_n 0, 1) := cg119_0.2.1
theorem c119_2 : mc_cd 119 2 = some (.iload_n 1, 1) := cg119_0.2.2.1
theorem c119_3 : mc_cd 119 3 = some (.invokevirtual 105, 3) := cg119_0.2.2.2.1
theorem c119_6 : mc_cd 119 6 = some (.invokevirtual 198, 3) := cg119_0.2.2.2.2.1
theorem c119_9 : mc_cd 119 9 = some (.istore_n 3, 1) := cg119_0.2.2.2.2.2.1
theorem c119_10 : mc_cd 119 10 = some (.iload_n 3, 1) := cg119_0.2.2.2.2.2.2.1
theorem c119_11 : mc_cd 119 11 = some (.ifCond .eq 9, 3) := cg119_0.2.2.2.2.2.2.2
theorem cg119_14 : mc_cd 119 14 = some (.aload_n 0, 1) ∧ mc_cd 119 15 = some (.iload_n 3, 1) ∧ mc_cd 119 16 = some (.invokevirtual 70, 3) ∧ mc_cd 119 19 = some (.ireturn, 1) ∧ mc_cd 119 20 = some (.aload_n 0, 1) ∧ mc_cd 119 21 = some (.aload_n 0, 1) ∧ mc_cd 119 22 = some (.getfield 30, 3) ∧ mc_cd 119 25 = some (.aload_n 0, 1) := by decide +kernel
theorem c119_14 : mc_cd 119 14 = some (.aload_n 0, 1) := cg119_14.1
theorem c119_15 : mc_cd 119 15 = some (.iload_n 3, 1) := cg119_14.2.1
theorem c119_16 : mc_cd 119 16 = some (.invokevirtual 70, 3) := cg119_14.2.2.1
theorem c119_19 : mc_cd 119 19 = some (.ireturn, 1) := cg119_14.2.2.2.1
theorem c119_20 : mc_cd 119 20 = some (.aload_n 0, 1) := cg119_14.2.2.2.2.1
theorem c119_21 : mc_cd 119 21 = some (.aload_n 0, 1) := cg119_14.2.2.2.2.2.1
theorem c119_22 : mc_cd 119 22 = some (.getfield 30, 3) := cg119_14.2.2.2.2.2.2.1
theorem c119_25 : mc_cd 119 25 = some (.aload_n 0, 1) := cg119_14.2.2.2.2.2.2.2
theorem cg119_26 : mc_cd 119 26 = some (.getfield 51, 3) ∧ mc_cd 119 29 = some (.getfield 109, 3) ∧ mc_cd 119 32 = some (.iload_n 1, 1) ∧ mc_cd 119 33 = some (.aaload, 1) ∧ mc_cd 119 34 = some (.getfield 129, 3) ∧ mc_cd 119 37 = some (.iload_n 1, 1) ∧ mc_cd 119 38 = some (.iload_n 2, 1) ∧ mc_cd 119 39 = some (.invokevirtual 223, 3) := by decide +kernel
theorem c119_26 : mc_cd 119 26 = some (.getfield 51, 3) := cg119_26.1
theorem c119_29 : mc_cd 119 29 = some (.getfield 109, 3) := cg119_26.2.1
theorem c119_32 : mc_cd 119 32 = some (.iload_n 1, 1) := cg119_26.2.2.1
theorem c119_33 : mc_cd 119 33 = some (.aaload, 1) := cg119_26.2.2.2.1
theorem c119_34 : mc_cd 119 34 = some (.getfield 129, 3) := cg119_26.2.2.2.2.1
theorem c119_37 : mc_cd 119 37 = some (.iload_n 1, 1) := cg119_26.2.2.2.2.2.1
theorem c119_38 : mc_cd 119 38 = some (.iload_n 2, 1) := cg119_26.2.2.2.2.2.2.1
theorem c119_39 : mc_cd 119 39 = some (.invokevirtual 223, 3) := cg119_26.2.2.2.2.2.2.2
theorem cg119_42 : mc_cd 119 42 = some (.invokevirtual 99, 3) ∧ mc_cd 119 45 = some (.ireturn, 1) := by decide +kernel
theorem c119_42 : mc_cd 119 42 = some (.invokevirtual 99, 3) := cg119_42.1
theorem c119_45 : mc_cd 119 45 = some (.ireturn, 1) := cg119_42.2
/-! StrikeAwake.barOfAsking(Z)I -/
theorem e121 : wq_en 121 = some (0, 3, false, some FieldType.int) := rfl
theorem cg121_0 : mc_cd 121 0 = some (.aload_n 0, 1) ∧ mc_cd 121 1 = some (.iload_n 1, 1) ∧ mc_cd 121 2 = some (.invokevirtual 174, 3) ∧ mc_cd 121 5 = some (.istore_n 2, 1) ∧ mc_cd 121 6 = some (.iload_n 2, 1) ∧ mc_cd 121 7 = some (.ifCond .eq 5, 3) ∧ mc_cd 121 10 = some (.iload_n 2, 1) ∧ mc_cd 121 11 = some (.ireturn, 1) := by decide +kernel
theorem c121_0 : mc_cd 121 0 = some (.aload_n 0, 1) := cg121_0.1
theorem c121_1 : mc_cd 121 1 = some (.iload_n 1, 1) := cg121_0.2.1
theorem c121_2 : mc_cd 121 2 = some (.invokevirtual 174, 3) := cg121_0.2.2.1
theorem c121_5 : mc_cd 121 5 = some (.istore_n 2, 1) := cg121_0.2.2.2.1
theorem c121_6 : mc_cd 121 6 = some (.iload_n 2, 1) := cg121_0.2.2.2.2.1
theorem c121_7 : mc_cd 121 7 = some (.ifCond .eq 5, 3) := cg121_0.2.2.2.2.2.1
theorem c121_10 : mc_cd 121 10 = some (.iload_n 2, 1) := cg121_0.2.2.2.2.2.2.1
theorem c121_11 : mc_cd 121 11 = some (.ireturn, 1) := cg121_0.2.2.2.2.2.2.2
theorem cg121_12 : mc_cd 121 12 = some (.aload_n 0, 1) ∧ mc_cd 121 13 = some (.getfield 30, 3) ∧ mc_cd 121 16 = some (.getfield 177, 3) ∧ mc_cd 121 19 = some (.sipush 400, 3) ∧ mc_cd 121 22 = some (.if_icmp .le 5, 3) ∧ mc_cd 121 25 = some (.iconst 3, 1) ∧ mc_cd 121 26 = some (.ireturn, 1) ∧ mc_cd 121 27 = some (.aload_n 0, 1) := by decide +kernel
theorem c121_12 : mc_cd 121 12 = some (.aload_n 0, 1) := cg121_12.1
theorem c121_13 : mc_cd 121 13 = some (.getfield 30, 3) := cg121_12.2.1
theorem c121_16 : mc_cd 121 16 = some (.getfield 177, 3) := cg121_12.2.2.1
theorem c121_19 : mc_cd 121 19 = some (.sipush 400, 3) := cg121_12.2.2.2.1
theorem c121_22 : mc_cd 121 22 = some (.if_icmp .le 5, 3) := cg121_12.2.2.2.2.1
theorem c121_25 : mc_cd 121 25 = some (.iconst 3, 1) := cg121_12.2.2.2.2.2.1
theorem c121_26 : mc_cd 121 26 = some (.ireturn, 1) := cg121_12.2.2.2.2.2.2.1
theorem c121_27 : mc_cd 121 27 = some (.aload_n 0, 1) := cg121_12.2.2.2.2.2.2.2
theorem cg121_28 : mc_cd 121 28 = some (.getfield 30, 3) ∧ mc_cd 121 31 = some (.getfield 177, 3) ∧ mc_cd 121 34 = some (.ifCond .ne 8, 3) ∧ mc_cd 121 37 = some (.bipush 6, 2) ∧ mc_cd 121 39 = some (.goto 4, 3) ∧ mc_cd 121 42 = some (.iconst 0, 1) ∧ mc_cd 121 43 = some (.ireturn, 1) := by decide +kernel
theorem c121_28 : mc_cd 121 28 = some (.getfield 30, 3) := cg121_28.1
theorem c121_31 : mc_cd 121 31 = some (.getfield 177, 3) := cg121_28.2.1
theorem c121_34 : mc_cd 121 34 = some (.ifCond .ne 8, 3) := cg121_28.2.2.1
theorem c121_37 : mc_cd 121 37 = some (.bipush 6, 2) := cg121_28.2.2.2.1
theorem c121_39 : mc_cd 121 39 = some (.goto 4, 3) := cg121_28.2.2.2.2.1
theorem c121_42 : mc_cd 121 42 = some (.iconst 0, 1) := cg121_28.2.2.2.2.2.1
theorem c121_43 : mc_cd 121 43 = some (.ireturn, 1) := cg121_28.2.2.2.2.2.2
/-! StrikeAwake$Census.nextFrom(ILStrikeAwake$Parish;)I -/
theorem e124 : wq_en 124 = some (4, 4, false, some FieldType.int) := rfl
theorem cg124_0 : mc_cd 124 0 = some (.iload_n 1, 1) ∧ mc_cd 124 1 = some (.istore_n 3, 1) ∧ mc_cd 124 2 = some (.iload_n 3, 1) ∧ mc_cd 124 3 = some (.i2l, 1) ∧ mc_cd 124 4 = some (.aload_n 2, 1) ∧ mc_cd 124 5 = some (.getfield 45, 3) ∧ mc_cd 124 8 = some (.lcmp, 1) ∧ mc_cd 124 9 = some (.ifCond .ge 26, 3) := by decide +kernel
theorem c124_0 : mc_cd 124 0 = some (.iload_n 1, 1) := cg124_0.1
theorem c124_1 : mc_cd 124 1 = some (.istore_n 3, 1) := cg124_0.2.1
theorem c124_2 : mc_cd 124 2 = some (.iload_n 3, 1) := cg124_0.2.2.1
theorem c124_3 : mc_cd 124 3 = some (.i2l, 1) := cg124_0.2.2.2.1
theorem c124_4 : mc_cd 124 4 = some (.aload_n 2, 1) := cg124_0.2.2.2.2.1
theorem c124_5 : mc_cd 124 5 = some (.getfield 45, 3) := cg124_0.2.2.2.2.2.1
theorem c124_8 : mc_cd 124 8 = some (.lcmp, 1) := cg124_0.2.2.2.2.2.2.1
theorem c124_9 : mc_cd 124 9 = some (.ifCond .ge 26, 3) := cg124_0.2.2.2.2.2.2.2
theorem cg124_12 : mc_cd 124 12 = some (.iload_n 3, 1) ∧ mc_cd 124 13 = some (.sipush 20000, 3) ∧ mc_cd 124 16 = some (.if_icmp .ge 19, 3) ∧ mc_cd 124 19 = some (.aload_n 0, 1) ∧ mc_cd 124 20 = some (.iload_n 3, 1) ∧ mc_cd 124 21 = some (.invokevirtual 113, 3) ∧ mc_cd 124 24 = some (.ifCond .eq 5, 3) ∧ mc_cd 124 27 = some (.iload_n 3, 1) := by decide +kernel
theorem c124_12 : mc_cd 124 12 = some (.iload_n 3, 1) := cg124_12.1
theorem c124_13 : mc_cd 124 13 = some (.sipush 20000, 3) := cg124_12.2.1
theorem c124_16 : mc_cd 124 16 = some (.if_icmp .ge 19, 3) := cg124_12.2.2.1
theorem c124_19 : mc_cd 124 19 = some (.aload_n 0, 1) := cg124_12.2.2.2.1
theorem c124_20 : mc_cd 124 20 = some (.iload_n 3, 1) := cg124_12.2.2.2.2.1
theorem c124_21 : mc_cd 124 21 = some (.invokevirtual 113, 3) := cg124_12.2.2.2.2.2.1
theorem c124_24 : mc_cd 124 24 = some (.ifCond .eq 5, 3) := cg124_12.2.2.2.2.2.2.1
theorem c124_27 : mc_cd 124 27 = some (.iload_n 3, 1) := cg124_12.2.2.2.2.2.2.2
theorem cg124_28 : mc_cd 124 28 = some (.ireturn, 1) ∧ mc_cd 124 29 = some (.iinc 3 1, 3) ∧ mc_cd 124 32 = some (.goto (-30), 3) ∧ mc_cd 124 35 = some (.iconst (-1), 1) ∧ mc_cd 124 36 = some (.ireturn, 1) := by decide +kernel
theorem c124_28 : mc_cd 124 28 = some (.ireturn, 1) := cg124_28.1
theorem c124_29 : mc_cd 124 29 = some (.iinc 3 1, 3) := cg124_28.2.1
theorem c124_32 : mc_cd 124 32 = some (.goto (-30), 3) := cg124_28.2.2.1
theorem c124_35 : mc_cd 124 35 = some (.iconst (-1), 1) := cg124_28.2.2.2.1
theorem c124_36 : mc_cd 124 36 = some (.ireturn, 1) := cg124_28.2.2.2.2
abbrev q_124 (r0 : Nat) (a1 : Int) (r2 : Nat) (T : wq_T) (H : wq_H) : Option Value → wq_T → wq_H → Prop := fun r T' H' => T = T' ∧ H = H' ∧ ∃ z : Int, some (vI z) = r ∧ ((-1) ≤ z ∧ z ≤ 19999)
set_option maxHeartbeats 4000000 in
theorem s_124 {kt : Nat → Option mc_E} {T : wq_T} {H : wq_H} {r0 : Nat} {a1 : Int} {r2 : Nat} (hW : WT T H) (g0 : T.2.2.2 r0 = some 12) (i1 : 0 ≤ a1 ∧ a1 ≤ 2147483647) (g2 : T.2.2.2 r2 = some 27) : wpc kt 2 124 [.ref r0, vI a1, .ref r2] T H (q_124 r0 a1 r2 T H) := by
  refine wp_enter e124 (Nat.le_of_ble_eq_true rfl) rfl ?_
  show wp _ _ 124 0 [(0, .ref r0), (1, vI a1), (2, .ref r2)] [] _ H _
  refine wp_of e124 c124_0 (rw_iload_n (pc' := 1) (z := a1) rfl rfl ?_)
  refine wp_of e124 c124_1 (rw_istore_n (pc' := 2) (z := a1) (L' := [(3, vI a1), (0, .ref r0), (1, vI a1), (2, .ref r2)]) rfl rfl rfl ?_)
  have lp35681 : ∀ (n35682 : Nat) (v35684 : Int), (0 ≤ v35684 ∧ v35684 ≤ 2147483647) → (2147483647 - v35684).toNat = n35682 → wp kt 1 124 2 [(3, vI v35684), (0, .ref r0), (2, .ref r2)] [] T H (q_124 r0 a1 r2 T H) := by
    intro n35682
    induction n35682 using Nat.strongRecOn with
    | _ n35682 ih35683 =>
      intro v35684 b35687 m35688
      refine wp_of e124 c124_2 (rw_iload_n (pc' := 3) (z := v35684) rfl rfl ?_)
      refine wp_of e124 c124_3 (rw_i2l (pc' := 4) rfl ⟨by omega, by omega⟩ ?_)
      refine wp_of e124 c124_4 (rw_aload_n (pc' := 5) (v := .ref r2) rfl rfl rfl ?_)
      refine wp_of e124 c124_5 (xg_L (pc' := 8) lf_4_45 hW g2 sh_27 (by decide) (by decide) ty_27_18 rfl rfl (fun b35689 b35690 => ?_))
      refine wp_of e124 c124_8 (rw_lcmp (pc' := 9) rfl ⟨by omega, by omega⟩ ⟨by omega, by omega⟩ ?_)
      have b35691 := wq_cmp_b v35684 (H r2 18)
      refine wp_of e124 c124_9 (rw_if_ge (p1 := 35) (p2 := 12) (by decide) rfl ⟨by omega, by omega⟩ (fun c35692 => ?_) (fun c35692 => ?_))
      · refine wp_of e124 c124_35 (rw_iconst (pc' := 36) rfl ?_)
        exact wp_ireturn e124 c124_36 rfl ⟨rfl, rfl, -1, rfl, ⟨by omega, by omega⟩⟩
      · refine wp_of e124 c124_12 (rw_iload_n (pc' := 13) (z := v35684) rfl rfl ?_)
        refine wp_of e124 c124_13 (rw_sipush (pc' := 16) (z := 20000) rfl (by decide) ?_)
        refine wp_of e124 c124_16 (rw_icmp_ge (p1 := 35) (p2 := 19) (by decide) rfl ⟨by omega, by omega⟩ ⟨by omega, by omega⟩ (fun c35693 => ?_) (fun c35693 => ?_))
        · refine wp_of e124 c124_35 (rw_iconst (pc' := 36) rfl ?_)
          exact wp_ireturn e124 c124_36 rfl ⟨rfl, rfl, -1, rfl, ⟨by omega, by omega⟩⟩
        · refine wp_of e124 c124_19 (rw_aload_n (pc' := 20) (v := .ref r0) rfl rfl rfl ?_)
          refine wp_of e124 c124_20 (rw_iload_n (pc' := 21) (z := v35684) rfl rfl ?_)
          refine wp_of e124 c124_21 (xc_V (pc' := 24) (r := r0) (as := [vI v35684]) (st := []) (lm_4_113) rfl rfl (Nat.le_of_ble_eq_true rfl) hW g0 sh_12 (by decide) rfl (by decide) (s_95 hW g0 ⟨by omega, by omega⟩) (fun R35694 T35695 H35696 p35697 => ?_))
          obtain ⟨e35698, e35700, z35701, e35699, b35702⟩ := p35697
          subst e35698
          subst e35699
          subst e35700
          show wp _ _ 124 24 [(3, vI v35684), (0, .ref r0), (2, .ref r2)] [vI z35701] _ H _
          refine wp_of e124 c124_24 (rw_if_eq (p1 := 29) (p2 := 27) (by decide) rfl ⟨by omega, by omega⟩ (fun c35703 => ?_) (fun c35703 => ?_))
          · refine wp_of e124 c124_29 (rw_iinc (pc' := 32) (z := v35684) (L' := [(3, vI (v35684 + 1)), (0, .ref r0), (2, .ref r2)]) rfl rfl rfl rfl ?_)
            refine wp_of e124 c124_32 (rw_goto (p1 := 2) (by decide) ?_)
            exact wp_lc (ks := [3, 0, 2]) (wl_c rfl (wl_c rfl (wl_c rfl wl_n))) rfl (by decide) (ih35683 _ (by omega) (v35684 + 1) ⟨by omega, by omega⟩ rfl)
          · refine wp_of e124 c124_27 (rw_iload_n (pc' := 28) (z := v35684) rfl rfl ?_)
            exact wp_ireturn e124 c124_28 rfl ⟨rfl, rfl, v35684, rfl, ⟨by omega, by omega⟩⟩
  exact wp_lc (ks := [3, 0, 1, 2]) (wl_c rfl (wl_c rfl (wl_c rfl wl_n))) rfl (by decide) (lp35681 _ a1 ⟨by omega, by omega⟩ rfl)
/-! StrikeAwake$Asking.gather(LStrikeAwake$Parish;LStrikeAwake$Census;)V -/
theorem e123 : wq_en 123 = some (5, 5, false, none) := rfl
theorem cg123_0 : mc_cd 123 0 = some (.aload_n 0, 1) ∧ mc_cd 123 1 = some (.iconst 0, 1) ∧ mc_cd 123 2 = some (.putfield 28, 3) ∧ mc_cd 123 5 = some (.aload_n 2, 1) ∧ mc_cd 123 6 = some (.iconst 0, 1) ∧ mc_cd 123 7 = some (.aload_n 1, 1) ∧ mc_cd 123 8 = some (.invokevirtual 42, 3) ∧ mc_cd 123 11 = some (.istore_n 3, 1) := by decide +kernel
theorem c123_0 : mc_cd 123 0 = some (.aload_n 0, 1) := cg123_0.1
theorem c123_1 : mc_cd 123 1 = some (.iconst 0, 1) := cg123_0.2.1
theorem c123_2 : mc_cd 123 2 = some (.putfield 28, 3) := cg123_0.2.2.1
theorem c123_5 : mc_cd 123 5 = some (.aload_n 2, 1) := cg123_0.2.2.2.1
theorem c123_6 : mc_cd 123 6 = some (.iconst 0, 1) := cg123_0.2.2.2.2.1
theorem c123_7 : mc_cd 123 7 = some (.aload_n 1, 1) := cg123_0.2.2.2.2.2.1
theorem c123_8 : mc_cd 123 8 = some (.invokevirtual 42, 3) := cg123_0.2.2.2.2.2.2.1
theorem c123_11 : mc_cd 123 11 = some (.istore_n 3, 1) := cg123_0.2.2.2.2.2.2.2
theorem cg123_12 : mc_cd 123 12 = some (.iconst 0, 1) ∧ mc_cd 123 13 = some (.istore 4, 2) ∧ mc_cd 123 15 = some (.iload 4, 2) ∧ mc_cd 123 17 = some (.sipush 400, 3) ∧ mc_cd 123 20 = some (.if_icmp .ge 40, 3) ∧ mc_cd 123 23 = some (.iload_n 3, 1) ∧ mc_cd 123 24 = some (.ifCond .lt 36, 3) ∧ mc_cd 123 27 = some (.aload_n 0, 1) := by decide +kernel
theorem c123_12 : mc_cd 123 12 = some (.iconst 0, 1) := cg123_12.1
theorem c123_13 : mc_cd 123 13 = some (.istore 4, 2) := cg123_12.2.1
theorem c123_15 : mc_cd 123 15 = some (.iload 4, 2) := cg123_12.2.2.1
theorem c123_17 : mc_cd 123 17 = some (.sipush 400, 3) := cg123_12.2.2.2.1
theorem c123_20 : mc_cd 123 20 = some (.if_icmp .ge 40, 3) := cg123_12.2.2.2.2.1
theorem c123_23 : mc_cd 123 23 = some (.iload_n 3, 1) := cg123_12.2.2.2.2.2.1
theorem c123_24 : mc_cd 123 24 = some (.ifCond .lt 36, 3) := cg123_12.2.2.2.2.2.2.1
theorem c123_27 : mc_cd 123 27 = some (.aload_n 0, 1) := cg123_12.2.2.2.2.2.2.2
theorem cg123_28 : mc_cd 123 28 = some (.getfield 9, 3) ∧ mc_cd 123 31 = some (.iload 4, 2) ∧ mc_cd 123 33 = some (.iload_n 3, 1) ∧ mc_cd 123 34 = some (.iastore, 1) ∧ mc_cd 123 35 = some (.aload_n 0, 1) ∧ mc_cd 123 36 = some (.dup, 1) ∧ mc_cd 123 37 = some (.getfield 28, 3) ∧ mc_cd 123 40 = some (.iconst 1, 1) := by decide +kernel
theorem c123_28 : mc_cd 123 28 = some (.getfield 9, 3) := cg123_28.1
theorem c123_31 : mc_cd 123 31 = some (.iload 4, 2) := cg123_28.2.1
theorem c123_33 : mc_cd 123 33 = some (.iload_n 3, 1) := cg123_28.2.2.1
theorem c123_34 : mc_cd 123 34 = some (.iastore, 1) := cg123_28.2.2.2.1
theorem c123_35 : mc_cd 123 35 = some (.aload_n 0, 1) := cg123_28.2.2.2.2.1
theorem c123_36 : mc_cd 123 36 = some (.dup, 1) := cg123_28.2.2.2.2.2.1
theorem c123_37 : mc_cd 123 37 = some (.getfield 28, 3) := cg123_28.2.2.2.2.2.2.1
theorem c123_40 : mc_cd 123 40 = some (.iconst 1, 1) := cg123_28.2.2.2.2.2.2.2
theorem cg123_41 : mc_cd 123 41 = some (.iadd, 1) ∧ mc_cd 123 42 = some (.putfield 28, 3) ∧ mc_cd 123 45 = some (.aload_n 2, 1) ∧ mc_cd 123 46 = some (.iload_n 3, 1) ∧ mc_cd 123 47 = some (.iconst 1, 1) ∧ mc_cd 123 48 = some (.iadd, 1) ∧ mc_cd 123 49 = some (.aload_n 1, 1) ∧ mc_cd 123 50 = some (.invokevirtual 42, 3) := by decide +kernel
theorem c123_41 : mc_cd 123 41 = some (.iadd, 1) := cg123_41.1
theorem c123_42 : mc_cd 123 42 = some (.putfield 28, 3) := cg123_41.2.1
theorem c123_45 : mc_cd 123 45 = some (.aload_n 2, 1) := cg123_41.2.2.1
theorem c123_46 : mc_cd 123 46 = some (.iload_n 3, 1) := cg123_41.2.2.2.1
theorem c123_47 : mc_cd 123 47 = some (.iconst 1, 1) := cg123_41.2.2.2.2.1
theorem c123_48 : mc_cd 123 48 = some (.iadd, 1) := cg123_41.2.2.2.2.2.1
theorem c123_49 : mc_cd 123 49 = some (.aload_n 1, 1) := cg123_41.2.2.2.2.2.2.1
theorem c123_50 : mc_cd 123 50 = some (.invokevirtual 42, 3) := cg123_41.2.2.2.2.2.2.2
theorem cg123_53 : mc_cd 123 53 = some (.istore_n 3, 1) ∧ mc_cd 123 54 = some (.iinc 4 1, 3) ∧ mc_cd 123 57 = some (.goto (-42), 3) ∧ mc_cd 123 60 = some (.return_, 1) := by decide +kernel
theorem c123_53 : mc_cd 123 53 = some (.istore_n 3, 1) := cg123_53.1
theorem c123_54 : mc_cd 123 54 = some (.iinc 4 1, 3) := cg123_53.2.1
theorem c123_57 : mc_cd 123 57 = some (.goto (-42), 3) := cg123_53.2.2.1
theorem c123_60 : mc_cd 123 60 = some (.return_, 1) := cg123_53.2.2.2
abbrev q_123 (r0 : Nat) (r1 : Nat) (r2 : Nat) (T : wq_T) (H : wq_H) : Option Value → wq_T → wq_H → Prop := fun r T' H' => T = T' ∧ WT T H' ∧ wfr [(20, 4), (21, 999)] T H H' ∧ none = r
set_option maxHeartbeats 4000000 in
theorem s_123 {kt : Nat → Option mc_E} {T : wq_T} {H : wq_H} {r0 : Nat} {r1 : Nat} {r2 : Nat} (hW : WT T H) (g0 : T.2.2.2 r0 = some 20) (g1 : T.2.2.2 r1 = some 27) (g2 : T.2.2.2 r2 = some 12) : wpc kt 3 123 [.ref r0, .ref r1, .ref r2] T H (q_123 r0 r1 r2 T H) := by
  refine wp_enter e123 (Nat.le_of_ble_eq_true rfl) rfl ?_
  have f0 : wfr [(20, 4), (21, 999)] T H H := wfr.rf
  show wp _ _ 123 0 [(0, .ref r0), (1, .ref r1), (2, .ref r2)] [] _ H _
  refine wp_of e123 c123_0 (rw_aload_n (pc' := 1) (v := .ref r0) rfl rfl rfl ?_)
  refine wp_of e123 c123_1 (rw_iconst (pc' := 2) rfl ?_)
  refine wp_of e123 c123_2 (xp_I (pc' := 5) lf_5_28 hW g0 sh_20 (by decide) (by decide) ty_20_4 rfl rfl (by omega) (by omega) ⟨by omega, by omega⟩ rfl (fun H35945 e35946 w35947 => ?_))
  have f35948 := f0.put' e35946 g0 rfl
  have k35949 : H35945 r0 4 = 0 := wq_u_s e35946
  refine wp_of e123 c123_5 (rw_aload_n (pc' := 6) (v := .ref r2) rfl rfl rfl ?_)
  refine wp_of e123 c123_6 (rw_iconst (pc' := 7) rfl ?_)
  refine wp_of e123 c123_7 (rw_aload_n (pc' := 8) (v := .ref r1) rfl rfl rfl ?_)
  refine wp_of e123 c123_8 (xc_V (pc' := 11) (r := r2) (as := [vI 0, .ref r1]) (st := []) (lm_5_42) rfl rfl (Nat.le_of_ble_eq_true rfl) w35947 g2 sh_12 (by decide) rfl (by decide) (s_124 w35947 g2 ⟨by omega, by omega⟩ g1) (fun R35950 T35951 H35952 p35953 => ?_))
  obtain ⟨e35954, e35956, z35957, e35955, b35958⟩ := p35953
  subst e35954
  subst e35955
  subst e35956
  show wp _ _ 123 11 [(0, .ref r0), (1, .ref r1), (2, .ref r2)] [vI z35957] _ H35945 _
  refine wp_of e123 c123_11 (rw_istore_n (pc' := 12) (z := z35957) (L' := [(3, vI z35957), (0, .ref r0), (1, .ref r1), (2, .ref r2)]) rfl rfl rfl ?_)
  refine wp_of e123 c123_12 (rw_iconst (pc' := 13) rfl ?_)
  refine wp_of e123 c123_13 (rw_istore (pc' := 15) (z := 0) (L' := [(4, vI 0), (3, vI z35957), (0, .ref r0), (1, .ref r1), (2, .ref r2)]) rfl rfl rfl ?_)
  have lp36160 : ∀ (n36161 : Nat) (v36163 : Int) (v36164 : Int) (H36165 : wq_H), WT T H36165 → wfr [(20, 4), (21, 999)] T H35945 H36165 → (0 ≤ v36163 ∧ v36163 ≤ 400) → ((-1) ≤ v36164 ∧ v36164 ≤ 19999) → (H36165 r0 4 ≤ v36163) → (400 - v36163).toNat = n36161 → wp kt 2 123 15 [(4, vI v36163), (3, vI v36164), (0, .ref r0), (1, .ref r1), (2, .ref r2)] [] T H36165 (q_123 r0 r1 r2 T H) := by
    intro n36161
    induction n36161 using Nat.strongRecOn with
    | _ n36161 ih36162 =>
      intro v36163 v36164 H36165 w36166 f36167 b36168 b36169 x36170 m36171
      have f36172 := f35948.tr f36167 rfl
      refine wp_of e123 c123_15 (rw_iload (pc' := 17) (z := v36163) rfl rfl ?_)
      refine wp_of e123 c123_17 (rw_sipush (pc' := 20) (z := 400) rfl (by decide) ?_)
      refine wp_of e123 c123_20 (rw_icmp_ge (p1 := 60) (p2 := 23) (by decide) rfl ⟨by omega, by omega⟩ ⟨by omega, by omega⟩ (fun c36173 => ?_) (fun c36173 => ?_))
      · exact wp_return e123 c123_60 rfl ⟨rfl, w36166, f36172, rfl⟩
      · refine wp_of e123 c123_23 (rw_iload_n (pc' := 24) (z := v36164) rfl rfl ?_)
        refine wp_of e123 c123_24 (rw_if_lt (p1 := 60) (p2 := 27) (by decide) rfl ⟨by omega, by omega⟩ (fun c36174 => ?_) (fun c36174 => ?_))
        · exact wp_return e123 c123_60 rfl ⟨rfl, w36166, f36172, rfl⟩
        · refine wp_of e123 c123_27 (rw_aload_n (pc' := 28) (v := .ref r0) rfl rfl rfl ?_)
          refine wp_of e123 c123_28 (xg_R (pc' := 31) lf_5_9 w36166 g0 sh_20 (by decide) (by decide) ty_20_0 rfl rfl (fun r36175 q36176 g36177 => ?_))
          refine wp_of e123 c123_31 (rw_iload (pc' := 33) (z := v36163) rfl rfl ?_)
          refine wp_of e123 c123_33 (rw_iload_n (pc' := 34) (z := v36164) rfl rfl ?_)
          refine wp_of e123 c123_34 (xs_I (pc' := 35) w36166 g36177 (by decide) sh_21 (by decide) (ty_21 _) (by omega) (by omega) ⟨by omega, by omega⟩ (by omega) (by omega) rfl (fun H36178 e36179 w36180 => ?_))
          have f36181 := f36172.put' e36179 g36177 rfl
          have f36182 := f36167.put' e36179 g36177 rfl
          refine wp_of e123 c123_35 (rw_aload_n (pc' := 36) (v := .ref r0) rfl rfl rfl ?_)
          refine wp_of e123 c123_36 (rw_dup (pc' := 37) rfl rfl ?_)
          have k36183 : H36178 r0 4 = H36165 r0 4 := (wq_u_t e36179 g36177 g0 rfl 4)
          refine wp_of e123 c123_37 (xg_I (pc' := 40) lf_5_28 w36180 g0 sh_20 (by decide) (by decide) ty_20_4 rfl rfl (fun b36184 b36185 => ?_))
          refine wp_of e123 c123_40 (rw_iconst (pc' := 41) rfl ?_)
          refine wp_of e123 c123_41 (rw_iadd (pc' := 42) rfl ?_)
          refine wp_of e123 c123_42 (xp_I (pc' := 45) lf_5_28 w36180 g0 sh_20 (by decide) (by decide) ty_20_4 rfl rfl (by omega) (by omega) ⟨by omega, by omega⟩ rfl (fun H36186 e36187 w36188 => ?_))
          have f36189 := f36181.put' e36187 g0 rfl
          have f36190 := f36182.put' e36187 g0 rfl
          have k36191 : H36186 r0 4 = (H36178 r0 4) + 1 := wq_u_s e36187
          refine wp_of e123 c123_45 (rw_aload_n (pc' := 46) (v := .ref r2) rfl rfl rfl ?_)
          refine wp_of e123 c123_46 (rw_iload_n (pc' := 47) (z := v36164) rfl rfl ?_)
          refine wp_of e123 c123_47 (rw_iconst (pc' := 48) rfl ?_)
          refine wp_of e123 c123_48 (rw_iadd (pc' := 49) rfl ?_)
          refine wp_of e123 c123_49 (rw_aload_n (pc' := 50) (v := .ref r1) rfl rfl rfl ?_)
          refine wp_of e123 c123_50 (xc_V (pc' := 53) (r := r2) (as := [vI (v36164 + 1), .ref r1]) (st := []) (lm_5_42) rfl rfl (Nat.le_of_ble_eq_true rfl) w36188 g2 sh_12 (by decide) rfl (by decide) (s_124 w36188 g2 ⟨by omega, by omega⟩ g1) (fun R36192 T36193 H36194 p36195 => ?_))
          obtain ⟨e36196, e36198, z36199, e36197, b36200⟩ := p36195
          subst e36196
          subst e36197
          subst e36198
          show wp _ _ 123 53 [(4, vI v36163), (3, vI v36164), (0, .ref r0), (1, .ref r1), (2, .ref r2)] [vI z36199] _ H36186 _
          refine wp_of e123 c123_53 (rw_istore_n (pc' := 54) (z := z36199) (L' := [(3, vI z36199), (4, vI v36163), (0, .ref r0), (1, .ref r1), (2, .ref r2)]) rfl rfl rfl ?_)
          refine wp_of e123 c123_54 (rw_iinc (pc' := 57) (z := v36163) (L' := [(4, vI (v36163 + 1)), (3, vI z36199), (0, .ref r0), (1, .ref r1), (2, .ref r2)]) rfl rfl rfl rfl ?_)
          refine wp_of e123 c123_57 (rw_goto (p1 := 15) (by decide) ?_)
          exact wp_lc (ks := [4, 3, 0, 1, 2]) (wl_c rfl (wl_c rfl (wl_c rfl (wl_c rfl (wl_c rfl wl_n))))) rfl (by decide) (ih36162 _ (by omega) (v36163 + 1) z36199 H36186 w36188 f36190 ⟨by omega, by omega⟩ ⟨by omega, by omega⟩ (by omega) rfl)
  exact wp_lc (ks := [4, 3, 0, 1, 2]) (wl_c rfl (wl_c rfl (wl_c rfl (wl_c rfl (wl_c rfl wl_n))))) rfl (by decide) (lp36160 _ 0 z35957 H35945 w35947 wfr.rf ⟨by omega, by omega⟩ ⟨by omega, by omega⟩ (by omega) rfl)
/-! java/lang/Integer.bitCount(I)I -/
theorem e126 : wq_en 126 = some (15, 1, false, some FieldType.int) := rfl
theorem cg126_0 : mc_cd 126 0 = some (.iload_n 0, 1) ∧ mc_cd 126 1 = some (.iload_n 0, 1) ∧ mc_cd 126 2 = some (.iconst 1, 1) ∧ mc_cd 126 3 = some (.iushr, 1) ∧ mc_cd 126 4 = some (.ldc_w 265, 3) ∧ mc_cd 126 7 = some (.iand, 1) ∧ mc_cd 126 8 = some (.isub, 1) ∧ mc_cd 126 9 = some (.istore_n 0, 1) := by decide +kernel
theorem c126_0 : mc_cd 126 0 = some (.iload_n 0, 1) := cg126_0.1
theorem c126_1 : mc_cd 126 1 = some (.iload_n 0, 1) := cg126_0.2.1
theorem c126_2 : mc_cd 126 2 = some (.iconst 1, 1) := cg126_0.2.2.1
theorem c126_3 : mc_cd 126 3 = some (.iushr, 1) := cg126_0.2.2.2.1
theorem c126_4 : mc_cd 126 4 = some (.ldc_w 265, 3) := cg126_0.2.2.2.2.1
theorem c126_7 : mc_cd 126 7 = some (.iand, 1) := cg126_0.2.2.2.2.2.1
theorem c126_8 : mc_cd 126 8 = some (.isub, 1) := cg126_0.2.2.2.2.2.2.1
theorem c126_9 : mc_cd 126 9 = some (.istore_n 0, 1) := cg126_0.2.2.2.2.2.2.2
theorem cg126_10 : mc_cd 126 10 = some (.iload_n 0, 1) ∧ mc_cd 126 11 = some (.ldc_w 266, 3) ∧ mc_cd 126 14 = some (.iand, 1) ∧ mc_cd 126 15 = some (.iload_n 0, 1) ∧ mc_cd 126 16 = some (.iconst 2, 1) ∧ mc_cd 126 17 = some (.iushr, 1) ∧ mc_cd 126 18 = some (.ldc_w 266, 3) ∧ mc_cd 126 21 = some (.iand, 1) := by decide +kernel
theorem c126_10 : mc_cd 126 10 = some (.iload_n 0, 1) := cg126_10.1
theorem c126_11 : mc_cd 126 11 = some (.ldc_w 266, 3) := cg126_10.2.1
theorem c126_14 : mc_cd 126 14 = some (.iand, 1) := cg126_10.2.2.1
theorem c126_15 : mc_cd 126 15 = some (.iload_n 0, 1) := cg126_10.2.2.2.1
theorem c126_16 : mc_cd 126 16 = some (.iconst 2, 1) := cg126_10.2.2.2.2.1
theorem c126_17 : mc_cd 126 17 = some (.iushr, 1) := cg126_10.2.2.2.2.2.1
theorem c126_18 : mc_cd 126 18 = some (.ldc_w 266, 3) := cg126_10.2.2.2.2.2.2.1
theorem c126_21 : mc_cd 126 21 = some (.iand, 1) := cg126_10.2.2.2.2.2.2.2
theorem cg126_22 : mc_cd 126 22 = some (.iadd, 1) ∧ mc_cd 126 23 = some (.istore_n 0, 1) ∧ mc_cd 126 24 = some (.iload_n 0, 1) ∧ mc_cd 126 25 = some (.iload_n 0, 1) ∧ mc_cd 126 26 = some (.iconst 4, 1) ∧ mc_cd 126 27 = some (.iushr, 1) ∧ mc_cd 126 28 = some (.iadd, 1) ∧ mc_cd 126 29 = some (.ldc_w 267, 3) := by decide +kernel
theorem c126_22 : mc_cd 126 22 = some (.iadd, 1) := cg126_22.1
theorem c126_23 : mc_cd 126 23 = some (.istore_n 0, 1) := cg126_22.2.1
theorem c126_24 : mc_cd 126 24 = some (.iload_n 0, 1) := cg126_22.2.2.1
theorem c126_25 : mc_cd 126 25 = some (.iload_n 0, 1) := cg126_22.2.2.2.1
theorem c126_26 : mc_cd 126 26 = some (.iconst 4, 1) := cg126_22.2.2.2.2.1
theorem c126_27 : mc_cd 126 27 = some (.iushr, 1) := cg126_22.2.2.2.2.2.1
theorem c126_28 : mc_cd 126 28 = some (.iadd, 1) := cg126_22.2.2.2.2.2.2.1
theorem c126_29 : mc_cd 126 29 = some (.ldc_w 267, 3) := cg126_22.2.2.2.2.2.2.2
theorem cg126_32 : mc_cd 126 32 = some (.iand, 1) ∧ mc_cd 126 33 = some (.istore_n 0, 1) ∧ mc_cd 126 34 = some (.iload_n 0, 1) ∧ mc_cd 126 35 = some (.iload_n 0, 1) ∧ mc_cd 126 36 = some (.bipush 8, 2) ∧ mc_cd 126 38 = some (.iushr, 1) ∧ mc_cd 126 39 = some (.iadd, 1) ∧ mc_cd 126 40 = some (.istore_n 0, 1) := by decide +kernel
theorem c126_32 : mc_cd 126 32 = some (.iand, 1) := cg126_32.1
theorem c126_33 : mc_cd 126 33 = some (.istore_n 0, 1) := cg126_32.2.1
theorem c126_34 : mc_cd 126 34 = some (.iload_n 0, 1) := cg126_32.2.2.1
theorem c126_35 : mc_cd 126 35 = some (.iload_n 0, 1) := cg126_32.2.2.2.1
theorem c126_36 : mc_cd 126 36 = some (.bipush 8, 2) := cg126_32.2.2.2.2.1
theorem c126_38 : mc_cd 126 38 = some (.iushr, 1) := cg126_32.2.2.2.2.2.1
theorem c126_39 : mc_cd 126 39 = some (.iadd, 1) := cg126_32.2.2.2.2.2.2.1
theorem c126_40 : mc_cd 126 40 = some (.istore_n 0, 1) := cg126_32.2.2.2.2.2.2.2
theorem cg126_41 : mc_cd 126 41 = some (.iload_n 0, 1) ∧ mc_cd 126 42 = some (.iload_n 0, 1) ∧ mc_cd 126 43 = some (.bipush 16, 2) ∧ mc_cd 126 45 = some (.iushr, 1) ∧ mc_cd 126 46 = some (.iadd, 1) ∧ mc_cd 126 47 = some (.istore_n 0, 1) ∧ mc_cd 126 48 = some (.iload_n 0, 1) ∧ mc_cd 126 49 = some (.bipush 63, 2) := by decide +kernel
theorem c126_41 : mc_cd 126 41 = some (.iload_n 0, 1) := cg126_41.1
theorem c126_42 : mc_cd 126 42 = some (.iload_n 0, 1) := cg126_41.2.1
theorem c126_43 : mc_cd 126 43 = some (.bipush 16, 2) := cg126_41.2.2.1
theorem c126_45 : mc_cd 126 45 = some (.iushr, 1) := cg126_41.2.2.2.1
theorem c126_46 : mc_cd 126 46 = some (.iadd, 1) := cg126_41.2.2.2.2.1
theorem c126_47 : mc_cd 126 47 = some (.istore_n 0, 1) := cg126_41.2.2.2.2.2.1
theorem c126_48 : mc_cd 126 48 = some (.iload_n 0, 1) := cg126_41.2.2.2.2.2.2.1
theorem c126_49 : mc_cd 126 49 = some (.bipush 63, 2) := cg126_41.2.2.2.2.2.2.2
theorem cg126_51 : mc_cd 126 51 = some (.iand, 1) ∧ mc_cd 126 52 = some (.ireturn, 1) := by decide +kernel
theorem c126_51 : mc_cd 126 51 = some (.iand, 1) := cg126_51.1
theorem c126_52 : mc_cd 126 52 = some (.ireturn, 1) := cg126_51.2
abbrev q_126 (a0 : Int) (T : wq_T) (H : wq_H) : Option Value → wq_T → wq_H → Prop := fun r T' H' => T = T' ∧ H = H' ∧ ∃ z : Int, some (vI z) = r ∧ ((-2147483648) ≤ z ∧ z ≤ 2147483647)
set_option maxHeartbeats 4000000 in
theorem s_126 {kt : Nat → Option mc_E} {T : wq_T} {H : wq_H} {a0 : Int} (hW : WT T H) (i0 : (-2147483648) ≤ a0 ∧ a0 ≤ 2147483647) : wpc kt 1 126 [vI a0] T H (q_126 a0 T H) := by
  refine wp_enter e126 (Nat.le_of_ble_eq_true rfl) rfl ?_
  show wp _ _ 126 0 [(0, vI a0)] [] _ H _
  refine wp_of e126 c126_0 (rw_iload_n (pc' := 1) (z := a0) rfl rfl ?_)
  refine wp_of e126 c126_1 (rw_iload_n (pc' := 2) (z := a0) rfl rfl ?_)
  refine wp_of e126 c126_2 (rw_iconst (pc' := 3) rfl ?_)
  refine wp_of e126 c126_3 (rw_iushr (pc' := 4) rfl ?_)
  obtain ⟨v36229, e36230⟩ : ∃ x : Int, x = wq_ushr a0 1 := ⟨_, rfl⟩
  rw [← e36230]
  have b36231 : -2147483648 ≤ v36229 ∧ v36229 ≤ 2147483647 := by
    rw [e36230]
    exact wI_ushr _ _
  refine wp_of e126 c126_4 (rw_ldc_wI (pc' := 7) (z := 1431655765) rfl rfl rfl ?_)
  refine wp_of e126 c126_7 (rw_iand (pc' := 8) rfl ?_)
  obtain ⟨v36232, e36233⟩ : ∃ x : Int, x = wq_and v36229 1431655765 := ⟨_, rfl⟩
  rw [← e36233]
  have b36234 : 0 ≤ v36232 ∧ v36232 ≤ 1431655765 := by
    rw [e36233]
    exact wq_and_b _ (by omega) (by omega)
  refine wp_of e126 c126_8 (rw_isubw (pc' := 9) rfl ?_)
  obtain ⟨v36235, e36236⟩ : ∃ x : Int, x = wq_w (a0 - v36232) := ⟨_, rfl⟩
  rw [← e36236]
  have b36237 : -2147483648 ≤ v36235 ∧ v36235 ≤ 2147483647 := by
    rw [e36236]
    exact wI_w _
  refine wp_of e126 c126_9 (rw_istore_n (pc' := 10) (z := v36235) (L' := [(0, vI v36235)]) rfl rfl rfl ?_)
  refine wp_of e126 c126_10 (rw_iload_n (pc' := 11) (z := v36235) rfl rfl ?_)
  refine wp_of e126 c126_11 (rw_ldc_wI (pc' := 14) (z := 858993459) rfl rfl rfl ?_)
  refine wp_of e126 c126_14 (rw_iand (pc' := 15) rfl ?_)
  obtain ⟨v36238, e36239⟩ : ∃ x : Int, x = wq_and v36235 858993459 := ⟨_, rfl⟩
  rw [← e36239]
  have b36240 : 0 ≤ v36238 ∧ v36238 ≤ 858993459 := by
    rw [e36239]
    exact wq_and_b _ (by omega) (by omega)
  refine wp_of e126 c126_15 (rw_iload_n (pc' := 16) (z := v36235) rfl rfl ?_)
  refine wp_of e126 c126_16 (rw_iconst (pc' := 17) rfl ?_)
  refine wp_of e126 c126_17 (rw_iushr (pc' := 18) rfl ?_)
  obtain ⟨v36241, e36242⟩ : ∃ x : Int, x = wq_ushr v36235 2 := ⟨_, rfl⟩
  rw [← e36242]
  have b36243 : -2147483648 ≤ v36241 ∧ v36241 ≤ 2147483647 := by
    rw [e36242]
    exact wI_ushr _ _
  refine wp_of e126 c126_18 (rw_ldc_wI (pc' := 21) (z := 858993459) rfl rfl rfl ?_)
  refine wp_of e126 c126_21 (rw_iand (pc' := 22) rfl ?_)
  obtain ⟨v36244, e36245⟩ : ∃ x : Int, x = wq_and v36241 858993459 := ⟨_, rfl⟩
  rw [← e36245]
  have b36246 : 0 ≤ v36244 ∧ v36244 ≤ 858993459 := by
    rw [e36245]
    exact wq_and_b _ (by omega) (by omega)
  refine wp_of e126 c126_22 (rw_iadd (pc' := 23) rfl ?_)
  refine wp_of e126 c126_23 (rw_istore_n (pc' := 24) (z := v36238 + v36244) (L' := [(0, vI (v36238 + v36244))]) rfl rfl rfl ?_)
  refine wp_of e126 c126_24 (rw_iload_n (pc' := 25) (z := v36238 + v36244) rfl rfl ?_)
  refine wp_of e126 c126_25 (rw_iload_n (pc' := 26) (z := v36238 + v36244) rfl rfl ?_)
  refine wp_of e126 c126_26 (rw_iconst (pc' := 27) rfl ?_)
  refine wp_of e126 c126_27 (rw_iushr (pc' := 28) rfl ?_)
  obtain ⟨v36247, e36248⟩ : ∃ x : Int, x = wq_ushr (v36238 + v36244) 4 := ⟨_, rfl⟩
  rw [← e36248]
  have b36249 : -2147483648 ≤ v36247 ∧ v36247 ≤ 2147483647 := by
    rw [e36248]
    exact wI_ushr _ _
  refine wp_of e126 c126_28 (rw_iaddw (pc' := 29) rfl ?_)
  obtain ⟨v36250, e36251⟩ : ∃ x : Int, x = wq_w ((v36238 + v36244) + v36247) := ⟨_, rfl⟩
  rw [← e36251]
  have b36252 : -2147483648 ≤ v36250 ∧ v36250 ≤ 2147483647 := by
    rw [e36251]
    exact wI_w _
  refine wp_of e126 c126_29 (rw_ldc_wI (pc' := 32) (z := 252645135) rfl rfl rfl ?_)
  refine wp_of e126 c126_32 (rw_iand (pc' := 33) rfl ?_)
  obtain ⟨v36253, e36254⟩ : ∃ x : Int, x = wq_and v36250 252645135 := ⟨_, rfl⟩
  rw [← e36254]
  have b36255 : 0 ≤ v36253 ∧ v36253 ≤ 252645135 := by
    rw [e36254]
    exact wq_and_b _ (by omega) (by omega)
  refine wp_of e126 c126_33 (rw_istore_n (pc' := 34) (z := v36253) (L' := [(0, vI v36253)]) rfl rfl rfl ?_)
  refine wp_of e126 c126_34 (rw_iload_n (pc' := 35) (z := v36253) rfl rfl ?_)
  refine wp_of e126 c126_35 (rw_iload_n (pc' := 36) (z := v36253) rfl rfl ?_)
  refine wp_of e126 c126_36 (rw_bipush (pc' := 38) (z := 8) rfl (by decide) ?_)
  refine wp_of e126 c126_38 (rw_iushr (pc' := 39) rfl ?_)
  obtain ⟨v36256, e36257⟩ : ∃ x : Int, x = wq_ushr v36253 8 := ⟨_, rfl⟩
  rw [← e36257]
  have b36258 : -2147483648 ≤ v36256 ∧ v36256 ≤ 2147483647 := by
    rw [e36257]
    exact wI_ushr _ _
  refine wp_of e126 c126_39 (rw_iaddw (pc' := 40) rfl ?_)
  obtain ⟨v36259, e36260⟩ : ∃ x : Int, x = wq_w (v36253 + v36256) := ⟨_, rfl⟩
  rw [← e36260]
  have b36261 : -2147483648 ≤ v36259 ∧ v36259 ≤ 2147483647 := by
    rw [e36260]
    exact wI_w _
  refine wp_of e126 c126_40 (rw_istore_n (pc' := 41) (z := v36259) (L' := [(0, vI v36259)]) rfl rfl rfl ?_)
  refine wp_of e126 c126_41 (rw_iload_n (pc' := 42) (z := v36259) rfl rfl ?_)
  refine wp_of e126 c126_42 (rw_iload_n (pc' := 43) (z := v36259) rfl rfl ?_)
  refine wp_of e126 c126_43 (rw_bipush (pc' := 45) (z := 16) rfl (by decide) ?_)
  refine wp_of e126 c126_45 (rw_iushr (pc' := 46) rfl ?_)
  obtain ⟨v36262, e36263⟩ : ∃ x : Int, x = wq_ushr v36259 16 := ⟨_, rfl⟩
  rw [← e36263]
  have b36264 : -2147483648 ≤ v36262 ∧ v36262 ≤ 2147483647 := by
    rw [e36263]
    exact wI_ushr _ _
  refine wp_of e126 c126_46 (rw_iaddw (pc' := 47) rfl ?_)
  obtain ⟨v36265, e36266⟩ : ∃ x : Int, x = wq_w (v36259 + v36262) := ⟨_, rfl⟩
  rw [← e36266]
  have b36267 : -2147483648 ≤ v36265 ∧ v36265 ≤ 2147483647 := by
    rw [e36266]
    exact wI_w _
  refine wp_of e126 c126_47 (rw_istore_n (pc' := 48) (z := v36265) (L' := [(0, vI v36265)]) rfl rfl rfl ?_)
  refine wp_of e126 c126_48 (rw_iload_n (pc' := 49) (z := v36265) rfl rfl ?_)
  refine wp_of e126 c126_49 (rw_bipush (pc' := 51) (z := 63) rfl (by decide) ?_)
  refine wp_of e126 c126_51 (rw_iand (pc' := 52) rfl ?_)
  obtain ⟨v36268, e36269⟩ : ∃ x : Int, x = wq_and v36265 63 := ⟨_, rfl⟩
  rw [← e36269]
  have b36270 : 0 ≤ v36268 ∧ v36268 ≤ 63 := by
    rw [e36269]
    exact wq_and_b _ (by omega) (by omega)
  exact wp_ireturn e126 c126_52 rfl ⟨rfl, rfl, v36268, rfl, ⟨by omega, by omega⟩⟩
/-! StrikeAwake$Asking.lookOf(LStrikeAwake$Parish;II)I -/
theorem e128 : wq_en 128 = some (5, 5, false, some FieldType.int) := rfl
theorem cg128_0 : mc_cd 128 0 = some (.iconst 0, 1) ∧ mc_cd 128 1 = some (.istore_n 3, 1) ∧ mc_cd 128 2 = some (.iconst 0, 1) ∧ mc_cd 128 3 = some (.istore 4, 2) ∧ mc_cd 128 5 = some (.iload 4, 2) ∧ mc_cd 128 7 = some (.aload_n 0, 1) ∧ mc_cd 128 8 = some (.getfield 46, 3) ∧ mc_cd 128 11 = some (.if_icmp .ge 39, 3) := by decide +kernel
theorem c128_0 : mc_cd 128 0 = some (.iconst 0, 1) := cg128_0.1
theorem c128_1 : mc_cd 128 1 = some (.istore_n 3, 1) := cg128_0.2.1
theorem c128_2 : mc_cd 128 2 = some (.iconst 0, 1) := cg128_0.2.2.1
theorem c128_3 : mc_cd 128 3 = some (.istore 4, 2) := cg128_0.2.2.2.1
theorem c128_5 : mc_cd 128 5 = some (.iload 4, 2) := cg128_0.2.2.2.2.1
theorem c128_7 : mc_cd 128 7 = some (.aload_n 0, 1) := cg128_0.2.2.2.2.2.1
theorem c128_8 : mc_cd 128 8 = some (.getfield 46, 3) := cg128_0.2.2.2.2.2.2.1
theorem c128_11 : mc_cd 128 11 = some (.if_icmp .ge 39, 3) := cg128_0.2.2.2.2.2.2.2
theorem cg128_14 : mc_cd 128 14 = some (.iload_n 2, 1) ∧ mc_cd 128 15 = some (.iload 4, 2) ∧ mc_cd 128 17 = some (.invokestatic 67, 3) ∧ mc_cd 128 20 = some (.ifCond .eq 24, 3) ∧ mc_cd 128 23 = some (.iload_n 3, 1) ∧ mc_cd 128 24 = some (.aload_n 0, 1) ∧ mc_cd 128 25 = some (.iload_n 1, 1) ∧ mc_cd 128 26 = some (.iload 4, 2) := by decide +kernel
theorem c128_14 : mc_cd 128 14 = some (.iload_n 2, 1) := cg128_14.1
theorem c128_15 : mc_cd 128 15 = some (.iload 4, 2) := cg128_14.2.1
theorem c128_17 : mc_cd 128 17 = some (.invokestatic 67, 3) := cg128_14.2.2.1
theorem c128_20 : mc_cd 128 20 = some (.ifCond .eq 24, 3) := cg128_14.2.2.2.1
theorem c128_23 : mc_cd 128 23 = some (.iload_n 3, 1) := cg128_14.2.2.2.2.1
theorem c128_24 : mc_cd 128 24 = some (.aload_n 0, 1) := cg128_14.2.2.2.2.2.1
theorem c128_25 : mc_cd 128 25 = some (.iload_n 1, 1) := cg128_14.2.2.2.2.2.2.1
theorem c128_26 : mc_cd 128 26 = some (.iload 4, 2) := cg128_14.2.2.2.2.2.2.2
theorem cg128_28 : mc_cd 128 28 = some (.invokevirtual 71, 3) ∧ mc_cd 128 31 = some (.aload_n 0, 1) ∧ mc_cd 128 32 = some (.getfield 75, 3) ∧ mc_cd 128 35 = some (.iload 4, 2) ∧ mc_cd 128 37 = some (.aaload, 1) ∧ mc_cd 128 38 = some (.getfield 79, 3) ∧ mc_cd 128 41 = some (.imul, 1) ∧ mc_cd 128 42 = some (.iadd, 1) := by decide +kernel
theorem c128_28 : mc_cd 128 28 = some (.invokevirtual 71, 3) := cg128_28.1
theorem c128_31 : mc_cd 128 31 = some (.aload_n 0, 1) := cg128_28.2.1
theorem c128_32 : mc_cd 128 32 = some (.getfield 75, 3) := cg128_28.2.2.1
theorem c128_35 : mc_cd 128 35 = some (.iload 4, 2) := cg128_28.2.2.2.1
theorem c128_37 : mc_cd 128 37 = some (.aaload, 1) := cg128_28.2.2.2.2.1
theorem c128_38 : mc_cd 128 38 = some (.getfield 79, 3) := cg128_28.2.2.2.2.2.1
theorem c128_41 : mc_cd 128 41 = some (.imul, 1) := cg128_28.2.2.2.2.2.2.1
theorem c128_42 : mc_cd 128 42 = some (.iadd, 1) := cg128_28.2.2.2.2.2.2.2
theorem cg128_43 : mc_cd 128 43 = some (.istore_n 3, 1) ∧ mc_cd 128 44 = some (.iinc 4 1, 3) ∧ mc_cd 128 47 = some (.goto (-42), 3) ∧ mc_cd 128 50 = some (.iload_n 3, 1) ∧ mc_cd 128 51 = some (.ireturn, 1) := by decide +kernel
theorem c128_43 : mc_cd 128 43 = some (.istore_n 3, 1) := cg128_43.1
theorem c128_44 : mc_cd 128 44 = some (.iinc 4 1, 3) := cg128_43.2.1
theorem c128_47 : mc_cd 128 47 = some (.goto (-42), 3) := cg128_43.2.2.1
theorem c128_50 : mc_cd 128 50 = some (.iload_n 3, 1) := cg128_43.2.2.2.1
theorem c128_51 : mc_cd 128 51 = some (.ireturn, 1) := cg128_43.2.2.2.2
abbrev q_128 (r0 : Nat) (a1 : Int) (a2 : Int) (T : wq_T) (H : wq_H) : Option Value → wq_T → wq_H → Prop := fun r T' H' => T = T' ∧ H = H' ∧ ∃ z : Int, some (vI z) = r ∧ ((-2147483648) ≤ z ∧ z ≤ 2147483647)
set_option maxHeartbeats 4000000 in
theorem s_128 {kt : Nat → Option mc_E} {T : wq_T} {H : wq_H} {r0 : Nat} {a1 : Int} {a2 : Int} (hW : WT T H) (g0 : T.2.2.2 r0 = some 27) (i1 : 0 ≤ a1 ∧ a1 ≤ 19999) (i2 : (-2147483648) ≤ a2 ∧ a2 ≤ 2147483647) : wpc kt 2 128 [.ref r0, vI a1, vI a2] T H (q_128 r0 a1 a2 T H) := by
  refine wp_enter e128 (Nat.le_of_ble_eq_true rfl) rfl ?_
  show wp _ _ 128 0 [(0, .ref r0), (1, vI a1), (2, vI a2)] [] _ H _
  refine wp_of e128 c128_0 (rw_iconst (pc' := 1) rfl ?_)
  refine wp_of e128 c128_1 (rw_istore_n (pc' := 2) (z := 0) (L' := [(3, vI 0), (0, .ref r0), (1, vI a1), (2, vI a2)]) rfl rfl rfl ?_)
  refine wp_of e128 c128_2 (rw_iconst (pc' := 3) rfl ?_)
  refine wp_of e128 c128_3 (rw_istore (pc' := 5) (z := 0) (L' := [(4, vI 0), (3, vI 0), (0, .ref r0), (1, vI a1), (2, vI a2)]) rfl rfl rfl ?_)
  have lp36778 : ∀ (n36779 : Nat) (v36781 : Int) (v36782 : Int), (0 ≤ v36781 ∧ v36781 ≤ 6) → ((-2147483648) ≤ v36782 ∧ v36782 ≤ 2147483647) → (6 - v36781).toNat = n36779 → wp kt 1 128 5 [(4, vI v36781), (3, vI v36782), (0, .ref r0), (1, vI a1), (2, vI a2)] [] T H (q_128 r0 a1 a2 T H) := by
    intro n36779
    induction n36779 using Nat.strongRecOn with
    | _ n36779 ih36780 =>
      intro v36781 v36782 b36785 b36786 m36787
      refine wp_of e128 c128_5 (rw_iload (pc' := 7) (z := v36781) rfl rfl ?_)
      refine wp_of e128 c128_7 (rw_aload_n (pc' := 8) (v := .ref r0) rfl rfl rfl ?_)
      refine wp_of e128 c128_8 (xg_I (pc' := 11) lf_5_46 hW g0 sh_27 (by decide) (by decide) ty_27_10 rfl rfl (fun b36788 b36789 => ?_))
      refine wp_of e128 c128_11 (rw_icmp_ge (p1 := 50) (p2 := 14) (by decide) rfl ⟨by omega, by omega⟩ ⟨by omega, by omega⟩ (fun c36790 => ?_) (fun c36790 => ?_))
      · refine wp_of e128 c128_50 (rw_iload_n (pc' := 51) (z := v36782) rfl rfl ?_)
        exact wp_ireturn e128 c128_51 rfl ⟨rfl, rfl, v36782, rfl, ⟨by omega, by omega⟩⟩
      · refine wp_of e128 c128_14 (rw_iload_n (pc' := 15) (z := a2) rfl rfl ?_)
        refine wp_of e128 c128_15 (rw_iload (pc' := 17) (z := v36781) rfl rfl ?_)
        refine wp_of e128 c128_17 (xc_S (pc' := 20) (as := [vI a2, vI v36781]) (st := []) (lm_5_67) rfl rfl (Nat.le_of_ble_eq_true rfl) rfl (by decide) (s_36 hW ⟨by omega, by omega⟩ ⟨by omega, by omega⟩) (fun R36791 T36792 H36793 p36794 => ?_))
        obtain ⟨e36795, e36797, z36798, e36796, b36799⟩ := p36794
        subst e36795
        subst e36796
        subst e36797
        show wp _ _ 128 20 [(4, vI v36781), (3, vI v36782), (0, .ref r0), (1, vI a1), (2, vI a2)] [vI z36798] _ H _
        refine wp_of e128 c128_20 (rw_if_eq (p1 := 44) (p2 := 23) (by decide) rfl ⟨by omega, by omega⟩ (fun c36800 => ?_) (fun c36800 => ?_))
        · refine wp_of e128 c128_44 (rw_iinc (pc' := 47) (z := v36781) (L' := [(4, vI (v36781 + 1)), (3, vI v36782), (0, .ref r0), (1, vI a1), (2, vI a2)]) rfl rfl rfl rfl ?_)
          refine wp_of e128 c128_47 (rw_goto (p1 := 5) (by decide) ?_)
          exact wp_lc (ks := [4, 3, 0, 1, 2]) (wl_c rfl (wl_c rfl (wl_c rfl (wl_c rfl (wl_c rfl wl_n))))) rfl (by decide) (ih36780 _ (by omega) (v36781 + 1) v36782 ⟨by omega, by omega⟩ ⟨by omega, by omega⟩ rfl)
        · refine wp_of e128 c128_23 (rw_iload_n (pc' := 24) (z := v36782) rfl rfl ?_)
          refine wp_of e128 c128_24 (rw_aload_n (pc' := 25) (v := .ref r0) rfl rfl rfl ?_)
          refine wp_of e128 c128_25 (rw_iload_n (pc' := 26) (z := a1) rfl rfl ?_)
          refine wp_of e128 c128_26 (rw_iload (pc' := 28) (z := v36781) rfl rfl ?_)
          refine wp_of e128 c128_28 (xc_V (pc' := 31) (r := r0) (as := [vI a1, vI v36781]) (st := [vI v36782]) (lm_5_71) rfl rfl (Nat.le_of_ble_eq_true rfl) hW g0 sh_27 (by decide) rfl (by decide) (s_96 hW g0 ⟨by omega, by omega⟩ ⟨by omega, by omega⟩) (fun R36801 T36802 H36803 p36804 => ?_))
          obtain ⟨e36805, e36807, z36808, e36806, b36809⟩ := p36804
          subst e36805
          subst e36806
          subst e36807
          show wp _ _ 128 31 [(4, vI v36781), (3, vI v36782), (0, .ref r0), (1, vI a1), (2, vI a2)] [vI z36808, vI v36782] _ H _
          refine wp_of e128 c128_31 (rw_aload_n (pc' := 32) (v := .ref r0) rfl rfl rfl ?_)
          refine wp_of e128 c128_32 (xg_R (pc' := 35) lf_5_75 hW g0 sh_27 (by decide) (by decide) ty_27_0 rfl rfl (fun r36810 q36811 g36812 => ?_))
          refine wp_of e128 c128_35 (rw_iload (pc' := 37) (z := v36781) rfl rfl ?_)
          refine wp_of e128 c128_37 (xa_R (pc' := 38) (by decide) hW g36812 sh_28 (by decide) (ty_28 _) (by omega) (by omega) rfl (fun r36813 q36814 g36815 => ?_))
          refine wp_of e128 c128_38 (xg_I (pc' := 41) lf_5_79 hW g36815 sh_35 (by decide) (by decide) ty_35_17 rfl rfl (fun b36816 b36817 => ?_))
          refine wp_of e128 c128_41 (rw_imulw (pc' := 42) rfl ?_)
          obtain ⟨v36818, e36819⟩ : ∃ x : Int, x = wq_w (z36808 * (H r36813 17)) := ⟨_, rfl⟩
          rw [← e36819]
          have b36820 : -2147483648 ≤ v36818 ∧ v36818 ≤ 2147483647 := by
            rw [e36819]
            exact wI_w _
          refine wp_of e128 c128_42 (rw_iaddw (pc' := 43) rfl ?_)
          obtain ⟨v36821, e36822⟩ : ∃ x : Int, x = wq_w (v36782 + v36818) := ⟨_, rfl⟩
          rw [← e36822]
          have b36823 : -2147483648 ≤ v36821 ∧ v36821 ≤ 2147483647 := by
            rw [e36822]
            exact wI_w _
          refine wp_of e128 c128_43 (rw_istore_n (pc' := 44) (z := v36821) (L' := [(3, vI v36821), (4, vI v36781), (0, .ref r0), (1, vI a1), (2, vI a2)]) rfl rfl rfl ?_)
          refine wp_of e128 c128_44 (rw_iinc (pc' := 47) (z := v36781) (L' := [(4, vI (v36781 + 1)), (3, vI v36821), (0, .ref r0), (1, vI a1), (2, vI a2)]) rfl rfl rfl rfl ?_)
          refine wp_of e128 c128_47 (rw_goto (p1 := 5) (by decide) ?_)
          exact wp_lc (ks := [4, 3, 0, 1, 2]) (wl_c rfl (wl_c rfl (wl_c rfl (wl_c rfl (wl_c rfl wl_n))))) rfl (by decide) (ih36780 _ (by omega) (v36781 + 1) v36821 ⟨by omega, by omega⟩ ⟨by omega, by omega⟩ rfl)
  exact wp_lc (ks := [4, 3, 0, 1, 2]) (wl_c rfl (wl_c rfl (wl_c rfl (wl_c rfl (wl_c rfl wl_n))))) rfl (by decide) (lp36778 _ 0 0 ⟨by omega, by omega⟩ ⟨by omega, by omega⟩ rfl)
/-! StrikeAwake$Asking.slotOf(I)I -/
theorem e129 : wq_en 129 = some (5, 4, false, some FieldType.int) := rfl
theorem cg129_0 : mc_cd 129 0 = some (.iload_n 1, 1) ∧ mc_cd 129 1 = some (.sipush 1023, 3) ∧ mc_cd 129 4 = some (.iand, 1) ∧ mc_cd 129 5 = some (.istore_n 2, 1) ∧ mc_cd 129 6 = some (.iconst 0, 1) ∧ mc_cd 129 7 = some (.istore_n 3, 1) ∧ mc_cd 129 8 = some (.iload_n 3, 1) ∧ mc_cd 129 9 = some (.sipush 1024, 3) := by decide +kernel
theorem c129_0 : mc_cd 129 0 = some (.iload_n 1, 1) := cg129_0.1
theorem c129_1 : mc_cd 129 1 = some (.sipush 1023, 3) := cg129_0.2.1
theorem c129_4 : mc_cd 129 4 = some (.iand, 1) := cg129_0.2.2.1
theorem c129_5 : mc_cd 129 5 = some (.istore_n 2, 1) := cg129_0.2.2.2.1
theorem c129_6 : mc_cd 129 6 = some (.iconst 0, 1) := cg129_0.2.2.2.2.1
theorem c129_7 : mc_cd 129 7 = some (.istore_n 3, 1) := cg129_0.2.2.2.2.2.1
theorem c129_8 : mc_cd 129 8 = some (.iload_n 3, 1) := cg129_0.2.2.2.2.2.2.1
theorem c129_9 : mc_cd 129 9 = some (.sipush 1024, 3) := cg129_0.2.2.2.2.2.2.2
theorem cg129_12 : mc_cd 129 12 = some (.if_icmp .ge 43, 3) ∧ mc_cd 129 15 = some (.aload_n 0, 1) ∧ mc_cd 129 16 = some (.getfield 21, 3) ∧ mc_cd 129 19 = some (.iload_n 2, 1) ∧ mc_cd 129 20 = some (.iaload, 1) ∧ mc_cd 129 21 = some (.ifCond .lt 18, 3) ∧ mc_cd 129 24 = some (.aload_n 0, 1) ∧ mc_cd 129 25 = some (.getfield 18, 3) := by decide +kernel
theorem c129_12 : mc_cd 129 12 = some (.if_icmp .ge 43, 3) := cg129_12.1
theorem c129_15 : mc_cd 129 15 = some (.aload_n 0, 1) := cg129_12.2.1
theorem c129_16 : mc_cd 129 16 = some (.getfield 21, 3) := cg129_12.2.2.1
theorem c129_19 : mc_cd 129 19 = some (.iload_n 2, 1) := cg129_12.2.2.2.1
theorem c129_20 : mc_cd 129 20 = some (.iaload, 1) := cg129_12.2.2.2.2.1
theorem c129_21 : mc_cd 129 21 = some (.ifCond .lt 18, 3) := cg129_12.2.2.2.2.2.1
theorem c129_24 : mc_cd 129 24 = some (.aload_n 0, 1) := cg129_12.2.2.2.2.2.2.1
theorem c129_25 : mc_cd 129 25 = some (.getfield 18, 3) := cg129_12.2.2.2.2.2.2.2
theorem cg129_28 : mc_cd 129 28 = some (.aload_n 0, 1) ∧ mc_cd 129 29 = some (.getfield 21, 3) ∧ mc_cd 129 32 = some (.iload_n 2, 1) ∧ mc_cd 129 33 = some (.iaload, 1) ∧ mc_cd 129 34 = some (.iaload, 1) ∧ mc_cd 129 35 = some (.iload_n 1, 1) ∧ mc_cd 129 36 = some (.if_icmp .ne 5, 3) ∧ mc_cd 129 39 = some (.iload_n 2, 1) := by decide +kernel
theorem c129_28 : mc_cd 129 28 = some (.aload_n 0, 1) := cg129_28.1
theorem c129_29 : mc_cd 129 29 = some (.getfield 21, 3) := cg129_28.2.1
theorem c129_32 : mc_cd 129 32 = some (.iload_n 2, 1) := cg129_28.2.2.1
theorem c129_33 : mc_cd 129 33 = some (.iaload, 1) := cg129_28.2.2.2.1
theorem c129_34 : mc_cd 129 34 = some (.iaload, 1) := cg129_28.2.2.2.2.1
theorem c129_35 : mc_cd 129 35 = some (.iload_n 1, 1) := cg129_28.2.2.2.2.2.1
theorem c129_36 : mc_cd 129 36 = some (.if_icmp .ne 5, 3) := cg129_28.2.2.2.2.2.2.1
theorem c129_39 : mc_cd 129 39 = some (.iload_n 2, 1) := cg129_28.2.2.2.2.2.2.2
theorem cg129_40 : mc_cd 129 40 = some (.ireturn, 1) ∧ mc_cd 129 41 = some (.iload_n 2, 1) ∧ mc_cd 129 42 = some (.iconst 1, 1) ∧ mc_cd 129 43 = some (.iadd, 1) ∧ mc_cd 129 44 = some (.sipush 1023, 3) ∧ mc_cd 129 47 = some (.iand, 1) ∧ mc_cd 129 48 = some (.istore_n 2, 1) ∧ mc_cd 129 49 = some (.iinc 3 1, 3) := by decide +kernel
theorem c129_40 : mc_cd 129 40 = some (.ireturn, 1) := cg129_40.1
theorem c129_41 : mc_cd 129 41 = some (.iload_n 2, 1) := cg129_40.2.1
theorem c129_42 : mc_cd 129 42 = some (.iconst 1, 1) := cg129_40.2.2.1
theorem c129_43 : mc_cd 129 43 = some (.iadd, 1) := cg129_40.2.2.2.1
theorem c129_44 : mc_cd 129 44 = some (.sipush 1023, 3) := cg129_40.2.2.2.2.1
theorem c129_47 : mc_cd 129 47 = some (.iand, 1) := cg129_40.2.2.2.2.2.1
theorem c129_48 : mc_cd 129 48 = some (.istore_n 2, 1) := cg129_40.2.2.2.2.2.2.1
theorem c129_49 : mc_cd 129 49 = some (.iinc 3 1, 3) := cg129_40.2.2.2.2.2.2.2
theorem cg129_52 : mc_cd 129 52 = some (.goto (-44), 3) ∧ mc_cd 129 55 = some (.iload_n 2, 1) ∧ mc_cd 129 56 = some (.ireturn, 1) := by decide +kernel
theorem c129_52 : mc_cd 129 52 = some (.goto (-44), 3) := cg129_52.1
theorem c129_55 : mc_cd 129 55 = some (.iload_n 2, 1) := cg129_52.2.1
theorem c129_56 : mc_cd 129 56 = some (.ireturn, 1) := cg129_52.2.2
abbrev q_129 (r0 : Nat) (a1 : Int) (T : wq_T) (H : wq_H) : Option Value → wq_T → wq_H → Prop := fun r T' H' => T = T' ∧ H = H' ∧ ∃ z : Int, some (vI z) = r ∧ (0 ≤ z ∧ z ≤ 1023)
set_option maxHeartbeats 4000000 in
theorem s_129 {kt : Nat → Option mc_E} {T : wq_T} {H : wq_H} {r0 : Nat} {a1 : Int} (hW : WT T H) (g0 : T.2.2.2 r0 = some 20) (i1 : (-2147483648) ≤ a1 ∧ a1 ≤ 2147483647) : wpc kt 1 129 [.ref r0, vI a1] T H (q_129 r0 a1 T H) := by
  refine wp_enter e129 (Nat.le_of_ble_eq_true rfl) rfl ?_
  show wp _ _ 129 0 [(0, .ref r0), (1, vI a1)] [] _ H _
  refine wp_of e129 c129_0 (rw_iload_n (pc' := 1) (z := a1) rfl rfl ?_)
  refine wp_of e129 c129_1 (rw_sipush (pc' := 4) (z := 1023) rfl (by decide) ?_)
  refine wp_of e129 c129_4 (rw_iand (pc' := 5) rfl ?_)
  obtain ⟨v36980, e36981⟩ : ∃ x : Int, x = wq_and a1 1023 := ⟨_, rfl⟩
  rw [← e36981]
  have b36982 : 0 ≤ v36980 ∧ v36980 ≤ 1023 := by
    rw [e36981]
    exact wq_and_b _ (by omega) (by omega)
  refine wp_of e129 c129_5 (rw_istore_n (pc' := 6) (z := v36980) (L' := [(2, vI v36980), (0, .ref r0), (1, vI a1)]) rfl rfl rfl ?_)
  refine wp_of e129 c129_6 (rw_iconst (pc' := 7) rfl ?_)
  refine wp_of e129 c129_7 (rw_istore_n (pc' := 8) (z := 0) (L' := [(3, vI 0), (2, vI v36980), (0, .ref r0), (1, vI a1)]) rfl rfl rfl ?_)
  have lp37119 : ∀ (n37120 : Nat) (v37122 : Int) (v37123 : Int), (0 ≤ v37122 ∧ v37122 ≤ 1024) → (0 ≤ v37123 ∧ v37123 ≤ 1023) → (1024 - v37122).toNat = n37120 → wp kt 0 129 8 [(3, vI v37122), (2, vI v37123), (0, .ref r0), (1, vI a1)] [] T H (q_129 r0 a1 T H) := by
    intro n37120
    induction n37120 using Nat.strongRecOn with
    | _ n37120 ih37121 =>
      intro v37122 v37123 b37126 b37127 m37128
      refine wp_of e129 c129_8 (rw_iload_n (pc' := 9) (z := v37122) rfl rfl ?_)
      refine wp_of e129 c129_9 (rw_sipush (pc' := 12) (z := 1024) rfl (by decide) ?_)
      refine wp_of e129 c129_12 (rw_icmp_ge (p1 := 55) (p2 := 15) (by decide) rfl ⟨by omega, by omega⟩ ⟨by omega, by omega⟩ (fun c37129 => ?_) (fun c37129 => ?_))
      · refine wp_of e129 c129_55 (rw_iload_n (pc' := 56) (z := v37123) rfl rfl ?_)
        exact wp_ireturn e129 c129_56 rfl ⟨rfl, rfl, v37123, rfl, ⟨by omega, by omega⟩⟩
      · refine wp_of e129 c129_15 (rw_aload_n (pc' := 16) (v := .ref r0) rfl rfl rfl ?_)
        refine wp_of e129 c129_16 (xg_R (pc' := 19) lf_5_21 hW g0 sh_20 (by decide) (by decide) ty_20_3 rfl rfl (fun r37130 q37131 g37132 => ?_))
        refine wp_of e129 c129_19 (rw_iload_n (pc' := 20) (z := v37123) rfl rfl ?_)
        refine wp_of e129 c129_20 (xa_I (so := 0) (pc' := 21) hW g37132 sh_24 (by decide) (ty_24 _) (by omega) (by omega) rfl (fun b37133 b37134 => ?_))
        refine wp_of e129 c129_21 (rw_if_lt (p1 := 39) (p2 := 24) (by decide) rfl ⟨by omega, by omega⟩ (fun c37135 => ?_) (fun c37135 => ?_))
        · refine wp_of e129 c129_39 (rw_iload_n (pc' := 40) (z := v37123) rfl rfl ?_)
          exact wp_ireturn e129 c129_40 rfl ⟨rfl, rfl, v37123, rfl, ⟨by omega, by omega⟩⟩
        · refine wp_of e129 c129_24 (rw_aload_n (pc' := 25) (v := .ref r0) rfl rfl rfl ?_)
          refine wp_of e129 c129_25 (xg_R (pc' := 28) lf_5_18 hW g0 sh_20 (by decide) (by decide) ty_20_2 rfl rfl (fun r37136 q37137 g37138 => ?_))
          refine wp_of e129 c129_28 (rw_aload_n (pc' := 29) (v := .ref r0) rfl rfl rfl ?_)
          refine wp_of e129 c129_29 (xg_K (pc' := 32) lf_5_21 hW g0 sh_20 (by decide) (by decide) rfl q37131 rfl ?_)
          refine wp_of e129 c129_32 (rw_iload_n (pc' := 33) (z := v37123) rfl rfl ?_)
          refine wp_of e129 c129_33 (xa_I (so := 0) (pc' := 34) hW g37132 sh_24 (by decide) (ty_24 _) (by omega) (by omega) rfl (fun b37139 b37140 => ?_))
          refine wp_of e129 c129_34 (xa_I (so := 0) (pc' := 35) hW g37138 sh_23 (by decide) (ty_23 _) (by omega) (by omega) rfl (fun b37141 b37142 => ?_))
          refine wp_of e129 c129_35 (rw_iload_n (pc' := 36) (z := a1) rfl rfl ?_)
          refine wp_of e129 c129_36 (rw_icmp_ne (p1 := 41) (p2 := 39) (by decide) rfl ⟨by omega, by omega⟩ ⟨by omega, by omega⟩ (fun c37143 => ?_) (fun c37143 => ?_))
          · refine wp_of e129 c129_41 (rw_iload_n (pc' := 42) (z := v37123) rfl rfl ?_)
            refine wp_of e129 c129_42 (rw_iconst (pc' := 43) rfl ?_)
            refine wp_of e129 c129_43 (rw_iadd (pc' := 44) rfl ?_)
            refine wp_of e129 c129_44 (rw_sipush (pc' := 47) (z := 1023) rfl (by decide) ?_)
            refine wp_of e129 c129_47 (rw_iand (pc' := 48) rfl ?_)
            obtain ⟨v37144, e37145⟩ : ∃ x : Int, x = wq_and (v37123 + 1) 1023 := ⟨_, rfl⟩
            rw [← e37145]
            have b37146 : 0 ≤ v37144 ∧ v37144 ≤ 1023 := by
              rw [e37145]
              exact wq_and_b _ (by omega) (by omega)
            refine wp_of e129 c129_48 (rw_istore_n (pc' := 49) (z := v37144) (L' := [(2, vI v37144), (3, vI v37122), (0, .ref r0), (1, vI a1)]) rfl rfl rfl ?_)
            refine wp_of e129 c129_49 (rw_iinc (pc' := 52) (z := v37122) (L' := [(3, vI (v37122 + 1)), (2, vI v37144), (0, .ref r0), (1, vI a1)]) rfl rfl rfl rfl ?_)
            refine wp_of e129 c129_52 (rw_goto (p1 := 8) (by decide) ?_)
            exact wp_lc (ks := [3, 2, 0, 1]) (wl_c rfl (wl_c rfl (wl_c rfl (wl_c rfl wl_n)))) rfl (by decide) (ih37121 _ (by omega) (v37122 + 1) v37144 ⟨by omega, by omega⟩ ⟨by omega, by omega⟩ rfl)
          · refine wp_of e129 c129_39 (rw_iload_n (pc' := 40) (z := v37123) rfl rfl ?_)
            exact wp_ireturn e129 c129_40 rfl ⟨rfl, rfl, v37123, rfl, ⟨by omega, by omega⟩⟩
  exact wp_lc (ks := [3, 2, 0, 1]) (wl_c rfl (wl_c rfl (wl_c rfl (wl_c rfl wl_n)))) rfl (by decide) (lp37119 _ 0 v36980 ⟨by omega, by omega⟩ ⟨by omega, by omega⟩ rfl)
/-! StrikeAwake$Asking.tells(LStrikeAwake$Parish;I)Z -/
theorem e127 : wq_en 127 = some (5, 5, false, some FieldType.boolean) := rfl
theorem cg127_0 : mc_cd 127 0 = some (.iconst 0, 1) ∧ mc_cd 127 1 = some (.istore_n 3, 1) ∧ mc_cd 127 2 = some (.iload_n 3, 1) ∧ mc_cd 127 3 = some (.sipush 1024, 3) ∧ mc_cd 127 6 = some (.if_icmp .ge 16, 3) ∧ mc_cd 127 9 = some (.aload_n 0, 1) ∧ mc_cd 127 10 = some (.getfield 21, 3) ∧ mc_cd 127 13 = some (.iload_n 3, 1) := by decide +kernel
theorem c127_0 : mc_cd 127 0 = some (.iconst 0, 1) := cg127_0.1
theorem c127_1 : mc_cd 127 1 = some (.istore_n 3, 1) := cg127_0.2.1
theorem c127_2 : mc_cd 127 2 = some (.iload_n 3, 1) := cg127_0.2.2.1
theorem c127_3 : mc_cd 127 3 = some (.sipush 1024, 3) := cg127_0.2.2.2.1
theorem c127_6 : mc_cd 127 6 = some (.if_icmp .ge 16, 3) := cg127_0.2.2.2.2.1
theorem c127_9 : mc_cd 127 9 = some (.aload_n 0, 1) := cg127_0.2.2.2.2.2.1
theorem c127_10 : mc_cd 127 10 = some (.getfield 21, 3) := cg127_0.2.2.2.2.2.2.1
theorem c127_13 : mc_cd 127 13 = some (.iload_n 3, 1) := cg127_0.2.2.2.2.2.2.2
theorem cg127_14 : mc_cd 127 14 = some (.iconst (-1), 1) ∧ mc_cd 127 15 = some (.iastore, 1) ∧ mc_cd 127 16 = some (.iinc 3 1, 3) ∧ mc_cd 127 19 = some (.goto (-17), 3) ∧ mc_cd 127 22 = some (.iconst 0, 1) ∧ mc_cd 127 23 = some (.istore_n 3, 1) ∧ mc_cd 127 24 = some (.iload_n 3, 1) ∧ mc_cd 127 25 = some (.aload_n 0, 1) := by decide +kernel
theorem c127_14 : mc_cd 127 14 = some (.iconst (-1), 1) := cg127_14.1
theorem c127_15 : mc_cd 127 15 = some (.iastore, 1) := cg127_14.2.1
theorem c127_16 : mc_cd 127 16 = some (.iinc 3 1, 3) := cg127_14.2.2.1
theorem c127_19 : mc_cd 127 19 = some (.goto (-17), 3) := cg127_14.2.2.2.1
theorem c127_22 : mc_cd 127 22 = some (.iconst 0, 1) := cg127_14.2.2.2.2.1
theorem c127_23 : mc_cd 127 23 = some (.istore_n 3, 1) := cg127_14.2.2.2.2.2.1
theorem c127_24 : mc_cd 127 24 = some (.iload_n 3, 1) := cg127_14.2.2.2.2.2.2.1
theorem c127_25 : mc_cd 127 25 = some (.aload_n 0, 1) := cg127_14.2.2.2.2.2.2.2
theorem cg127_26 : mc_cd 127 26 = some (.getfield 28, 3) ∧ mc_cd 127 29 = some (.if_icmp .ge 82, 3) ∧ mc_cd 127 32 = some (.aload_n 0, 1) ∧ mc_cd 127 33 = some (.getfield 18, 3) ∧ mc_cd 127 36 = some (.iload_n 3, 1) ∧ mc_cd 127 37 = some (.aload_n 1, 1) ∧ mc_cd 127 38 = some (.aload_n 0, 1) ∧ mc_cd 127 39 = some (.getfield 9, 3) := by decide +kernel
theorem c127_26 : mc_cd 127 26 = some (.getfield 28, 3) := cg127_26.1
theorem c127_29 : mc_cd 127 29 = some (.if_icmp .ge 82, 3) := cg127_26.2.1
theorem c127_32 : mc_cd 127 32 = some (.aload_n 0, 1) := cg127_26.2.2.1
theorem c127_33 : mc_cd 127 33 = some (.getfield 18, 3) := cg127_26.2.2.2.1
theorem c127_36 : mc_cd 127 36 = some (.iload_n 3, 1) := cg127_26.2.2.2.2.1
theorem c127_37 : mc_cd 127 37 = some (.aload_n 1, 1) := cg127_26.2.2.2.2.2.1
theorem c127_38 : mc_cd 127 38 = some (.aload_n 0, 1) := cg127_26.2.2.2.2.2.2.1
theorem c127_39 : mc_cd 127 39 = some (.getfield 9, 3) := cg127_26.2.2.2.2.2.2.2
theorem cg127_42 : mc_cd 127 42 = some (.iload_n 3, 1) ∧ mc_cd 127 43 = some (.iaload, 1) ∧ mc_cd 127 44 = some (.iload_n 2, 1) ∧ mc_cd 127 45 = some (.invokestatic 61, 3) ∧ mc_cd 127 48 = some (.iastore, 1) ∧ mc_cd 127 49 = some (.aload_n 0, 1) ∧ mc_cd 127 50 = some (.aload_n 0, 1) ∧ mc_cd 127 51 = some (.getfield 18, 3) := by decide +kernel
theorem c127_42 : mc_cd 127 42 = some (.iload_n 3, 1) := cg127_42.1
theorem c127_43 : mc_cd 127 43 = some (.iaload, 1) := cg127_42.2.1
theorem c127_44 : mc_cd 127 44 = some (.iload_n 2, 1) := cg127_42.2.2.1
theorem c127_45 : mc_cd 127 45 = some (.invokestatic 61, 3) := cg127_42.2.2.2.1
theorem c127_48 : mc_cd 127 48 = some (.iastore, 1) := cg127_42.2.2.2.2.1
theorem c127_49 : mc_cd 127 49 = some (.aload_n 0, 1) := cg127_42.2.2.2.2.2.1
theorem c127_50 : mc_cd 127 50 = some (.aload_n 0, 1) := cg127_42.2.2.2.2.2.2.1
theorem c127_51 : mc_cd 127 51 = some (.getfield 18, 3) := cg127_42.2.2.2.2.2.2.2
theorem cg127_54 : mc_cd 127 54 = some (.iload_n 3, 1) ∧ mc_cd 127 55 = some (.iaload, 1) ∧ mc_cd 127 56 = some (.invokevirtual 64, 3) ∧ mc_cd 127 59 = some (.istore 4, 2) ∧ mc_cd 127 61 = some (.aload_n 0, 1) ∧ mc_cd 127 62 = some (.getfield 21, 3) ∧ mc_cd 127 65 = some (.iload 4, 2) ∧ mc_cd 127 67 = some (.iaload, 1) := by decide +kernel
theorem c127_54 : mc_cd 127 54 = some (.iload_n 3, 1) := cg127_54.1
theorem c127_55 : mc_cd 127 55 = some (.iaload, 1) := cg127_54.2.1
theorem c127_56 : mc_cd 127 56 = some (.invokevirtual 64, 3) := cg127_54.2.2.1
theorem c127_59 : mc_cd 127 59 = some (.istore 4, 2) := cg127_54.2.2.2.1
theorem c127_61 : mc_cd 127 61 = some (.aload_n 0, 1) := cg127_54.2.2.2.2.1
theorem c127_62 : mc_cd 127 62 = some (.getfield 21, 3) := cg127_54.2.2.2.2.2.1
theorem c127_65 : mc_cd 127 65 = some (.iload 4, 2) := cg127_54.2.2.2.2.2.2.1
theorem c127_67 : mc_cd 127 67 = some (.iaload, 1) := cg127_54.2.2.2.2.2.2.2
theorem cg127_68 : mc_cd 127 68 = some (.ifCond .ge 14, 3) ∧ mc_cd 127 71 = some (.aload_n 0, 1) ∧ mc_cd 127 72 = some (.getfield 21, 3) ∧ mc_cd 127 75 = some (.iload 4, 2) ∧ mc_cd 127 77 = some (.iload_n 3, 1) ∧ mc_cd 127 78 = some (.iastore, 1) ∧ mc_cd 127 79 = some (.goto 26, 3) ∧ mc_cd 127 82 = some (.aload_n 0, 1) := by decide +kernel
theorem c127_68 : mc_cd 127 68 = some (.ifCond .ge 14, 3) := cg127_68.1
theorem c127_71 : mc_cd 127 71 = some (.aload_n 0, 1) := cg127_68.2.1
theorem c127_72 : mc_cd 127 72 = some (.getfield 21, 3) := cg127_68.2.2.1
theorem c127_75 : mc_cd 127 75 = some (.iload 4, 2) := cg127_68.2.2.2.1
theorem c127_77 : mc_cd 127 77 = some (.iload_n 3, 1) := cg127_68.2.2.2.2.1
theorem c127_78 : mc_cd 127 78 = some (.iastore, 1) := cg127_68.2.2.2.2.2.1
theorem c127_79 : mc_cd 127 79 = some (.goto 26, 3) := cg127_68.2.2.2.2.2.2.1
theorem c127_82 : mc_cd 127 82 = some (.aload_n 0, 1) := cg127_68.2.2.2.2.2.2.2
theorem cg127_83 : mc_cd 127 83 = some (.getfield 15, 3) ∧ mc_cd 127 86 = some (.aload_n 0, 1) ∧ mc_cd 127 87 = some (.getfield 21, 3) ∧ mc_cd 127 90 = some (.iload 4, 2) ∧ mc_cd 127 92 = some (.iaload, 1) ∧ mc_cd 127 93 = some (.iaload, 1) ∧ mc_cd 127 94 = some (.aload_n 0, 1) ∧ mc_cd 127 95 = some (.getfield 15, 3) := by decide +kernel
theorem c127_83 : mc_cd 127 83 = some (.getfield 15, 3) := cg127_83.1
theorem c127_86 : mc_cd 127 86 = some (.aload_n 0, 1) := cg127_83.2.1
theorem c127_87 : mc_cd 127 87 = some (.getfield 21, 3) := cg127_83.2.2.1
theorem c127_90 : mc_cd 127 90 = some (.iload 4, 2) := cg127_83.2.2.2.1
theorem c127_92 : mc_cd 127 92 = some (.iaload, 1) := cg127_83.2.2.2.2.1
theorem c127_93 : mc_cd 127 93 = some (.iaload, 1) := cg127_83.2.2.2.2.2.1
theorem c127_94 : mc_cd 127 94 = some (.aload_n 0, 1) := cg127_83.2.2.2.2.2.2.1
theorem c127_95 : mc_cd 127 95 = some (.getfield 15, 3) := cg127_83.2.2.2.2.2.2.2
theorem cg127_98 : mc_cd 127 98 = some (.iload_n 3, 1) ∧ mc_cd 127 99 = some (.iaload, 1) ∧ mc_cd 127 100 = some (.if_icmp .eq 5, 3) ∧ mc_cd 127 103 = some (.iconst 0, 1) ∧ mc_cd 127 104 = some (.ireturn, 1) ∧ mc_cd 127 105 = some (.iinc 3 1, 3) ∧ mc_cd 127 108 = some (.goto (-84), 3) ∧ mc_cd 127 111 = some (.iconst 1, 1) := by decide +kernel
theorem c127_98 : mc_cd 127 98 = some (.iload_n 3, 1) := cg127_98.1
theorem c127_99 : mc_cd 127 99 = some (.iaload, 1) := cg127_98.2.1
theorem c127_100 : mc_cd 127 100 = some (.if_icmp .eq 5, 3) := cg127_98.2.2.1
theorem c127_103 : mc_cd 127 103 = some (.iconst 0, 1) := cg127_98.2.2.2.1
theorem c127_104 : mc_cd 127 104 = some (.ireturn, 1) := cg127_98.2.2.2.2.1
theorem c127_105 : mc_cd 127 105 = some (.iinc 3 1, 3) := cg127_98.2.2.2.2.2.1
theorem c127_108 : mc_cd 127 108 = some (.goto (-84), 3) := cg127_98.2.2.2.2.2.2.1
theorem c127_111 : mc_cd 127 111 = some (.iconst 1, 1) := cg127_98.2.2.2.2.2.2.2
theorem c127_112 : mc_cd 127 112 = some (.ireturn, 1) := by decide +kernel
abbrev q_127 (r0 : Nat) (r1 : Nat) (a2 : Int) (T : wq_T) (H : wq_H) : Option Value → wq_T → wq_H → Prop := fun r T' H' => T = T' ∧ WT T H' ∧ wfr [(23, 999), (24, 999)] T H H' ∧ ∃ z : Int, some (vI z) = r ∧ (0 ≤ z ∧ z ≤ 1)
set_option maxHeartbeats 4000000 in
theorem s_127 {kt : Nat → Option mc_E} {T : wq_T} {H : wq_H} {r0 : Nat} {r1 : Nat} {a2 : Int} (hW : WT T H) (g0 : T.2.2.2 r0 = some 20) (g1 : T.2.2.2 r1 = some 27) (i2 : (-2147483648) ≤ a2 ∧ a2 ≤ 2147483647) : wpc kt 3 127 [.ref r0, .ref r1, vI a2] T H (q_127 r0 r1 a2 T H) := by
  refine wp_enter e127 (Nat.le_of_ble_eq_true rfl) rfl ?_
  have f0 : wfr [(23, 999), (24, 999)] T H H := wfr.rf
  show wp _ _ 127 0 [(0, .ref r0), (1, .ref r1), (2, vI a2)] [] _ H _
  refine wp_of e127 c127_0 (rw_iconst (pc' := 1) rfl ?_)
  refine wp_of e127 c127_1 (rw_istore_n (pc' := 2) (z := 0) (L' := [(3, vI 0), (0, .ref r0), (1, .ref r1), (2, vI a2)]) rfl rfl rfl ?_)
  have lp37798 : ∀ (n37799 : Nat) (v37801 : Int) (H37802 : wq_H), WT T H37802 → wfr [(24, 999)] T H H37802 → (0 ≤ v37801 ∧ v37801 ≤ 1024) → (1024 - v37801).toNat = n37799 → wp kt 2 127 2 [(3, vI v37801), (0, .ref r0), (1, .ref r1), (2, vI a2)] [] T H37802 (q_127 r0 r1 a2 T H) := by
    intro n37799
    induction n37799 using Nat.strongRecOn with
    | _ n37799 ih37800 =>
      intro v37801 H37802 w37803 f37804 b37805 m37806
      have f37807 := f0.tr f37804 rfl
      refine wp_of e127 c127_2 (rw_iload_n (pc' := 3) (z := v37801) rfl rfl ?_)
      refine wp_of e127 c127_3 (rw_sipush (pc' := 6) (z := 1024) rfl (by decide) ?_)
      refine wp_of e127 c127_6 (rw_icmp_ge (p1 := 22) (p2 := 9) (by decide) rfl ⟨by omega, by omega⟩ ⟨by omega, by omega⟩ (fun c37808 => ?_) (fun c37808 => ?_))
      · refine wp_of e127 c127_22 (rw_iconst (pc' := 23) rfl ?_)
        refine wp_of e127 c127_23 (rw_istore_n (pc' := 24) (z := 0) (L' := [(3, vI 0), (0, .ref r0), (1, .ref r1), (2, vI a2)]) rfl rfl rfl ?_)
        have lp38265 : ∀ (n38266 : Nat) (v38268 : Int) (H38269 : wq_H), WT T H38269 → wfr [(23, 999), (24, 999)] T H37802 H38269 → (0 ≤ v38268 ∧ v38268 ≤ 400) → (400 - v38268).toNat = n38266 → wp kt 2 127 24 [(3, vI v38268), (0, .ref r0), (1, .ref r1), (2, vI a2)] [] T H38269 (q_127 r0 r1 a2 T H) := by
          intro n38266
          induction n38266 using Nat.strongRecOn with
          | _ n38266 ih38267 =>
            intro v38268 H38269 w38270 f38271 b38272 m38273
            have f38274 := f37807.tr f38271 rfl
            refine wp_of e127 c127_24 (rw_iload_n (pc' := 25) (z := v38268) rfl rfl ?_)
            refine wp_of e127 c127_25 (rw_aload_n (pc' := 26) (v := .ref r0) rfl rfl rfl ?_)
            refine wp_of e127 c127_26 (xg_I (pc' := 29) lf_5_28 w38270 g0 sh_20 (by decide) (by decide) ty_20_4 rfl rfl (fun b38275 b38276 => ?_))
            refine wp_of e127 c127_29 (rw_icmp_ge (p1 := 111) (p2 := 32) (by decide) rfl ⟨by omega, by omega⟩ ⟨by omega, by omega⟩ (fun c38277 => ?_) (fun c38277 => ?_))
            · refine wp_of e127 c127_111 (rw_iconst (pc' := 112) rfl ?_)
              exact wp_zreturn e127 c127_112 rfl (by omega) ⟨rfl, w38270, f38274, 1, rfl, ⟨by omega, by omega⟩⟩
            · refine wp_of e127 c127_32 (rw_aload_n (pc' := 33) (v := .ref r0) rfl rfl rfl ?_)
              refine wp_of e127 c127_33 (xg_R (pc' := 36) lf_5_18 w38270 g0 sh_20 (by decide) (by decide) ty_20_2 rfl rfl (fun r38278 q38279 g38280 => ?_))
              refine wp_of e127 c127_36 (rw_iload_n (pc' := 37) (z := v38268) rfl rfl ?_)
              refine wp_of e127 c127_37 (rw_aload_n (pc' := 38) (v := .ref r1) rfl rfl rfl ?_)
              refine wp_of e127 c127_38 (rw_aload_n (pc' := 39) (v := .ref r0) rfl rfl rfl ?_)
              refine wp_of e127 c127_39 (xg_R (pc' := 42) lf_5_9 w38270 g0 sh_20 (by decide) (by decide) ty_20_0 rfl rfl (fun r38281 q38282 g38283 => ?_))
              refine wp_of e127 c127_42 (rw_iload_n (pc' := 43) (z := v38268) rfl rfl ?_)
              refine wp_of e127 c127_43 (xa_I (so := 0) (pc' := 44) w38270 g38283 sh_21 (by decide) (ty_21 _) (by omega) (by omega) rfl (fun b38284 b38285 => ?_))
              refine wp_of e127 c127_44 (rw_iload_n (pc' := 45) (z := a2) rfl rfl ?_)
              refine wp_of e127 c127_45 (xc_S (pc' := 48) (as := [.ref r1, vI (H38269 r38281 (v38268.toNat)), vI a2]) (st := [vI v38268, .ref r38278]) (lm_5_61) rfl rfl (Nat.le_of_ble_eq_true rfl) rfl (by decide) (s_128 w38270 g1 ⟨by omega, by omega⟩ ⟨by omega, by omega⟩) (fun R38286 T38287 H38288 p38289 => ?_))
              obtain ⟨e38290, e38292, z38293, e38291, b38294⟩ := p38289
              subst e38290
              subst e38291
              subst e38292
              show wp _ _ 127 48 [(3, vI v38268), (0, .ref r0), (1, .ref r1), (2, vI a2)] [vI z38293, vI v38268, .ref r38278] _ H38269 _
              refine wp_of e127 c127_48 (xs_I (pc' := 49) w38270 g38280 (by decide) sh_23 (by decide) (ty_23 _) (by omega) (by omega) ⟨by omega, by omega⟩ (by omega) (by omega) rfl (fun H38295 e38296 w38297 => ?_))
              have f38298 := f38274.put' e38296 g38280 rfl
              have f38299 := f38271.put' e38296 g38280 rfl
              refine wp_of e127 c127_49 (rw_aload_n (pc' := 50) (v := .ref r0) rfl rfl rfl ?_)
              refine wp_of e127 c127_50 (rw_aload_n (pc' := 51) (v := .ref r0) rfl rfl rfl ?_)
              have k38300 : H38295 r0 2 = H38269 r0 2 := (wq_u_t e38296 g38280 g0 rfl 2)
              have q38301 : H38295 r0 2 = (r38278 : Int) := k38300.trans q38279
              refine wp_of e127 c127_51 (xg_K (pc' := 54) lf_5_18 w38297 g0 sh_20 (by decide) (by decide) rfl q38301 rfl ?_)
              refine wp_of e127 c127_54 (rw_iload_n (pc' := 55) (z := v38268) rfl rfl ?_)
              refine wp_of e127 c127_55 (xa_I (so := 0) (pc' := 56) w38297 g38280 sh_23 (by decide) (ty_23 _) (by omega) (by omega) rfl (fun b38302 b38303 => ?_))
              refine wp_of e127 c127_56 (xc_V (pc' := 59) (r := r0) (as := [vI (H38295 r38278 (v38268.toNat))]) (st := []) (lm_5_64) rfl rfl (Nat.le_of_ble_eq_true rfl) w38297 g0 sh_20 (by decide) rfl (by decide) (s_129 w38297 g0 ⟨by omega, by omega⟩) (fun R38304 T38305 H38306 p38307 => ?_))
              obtain ⟨e38308, e38310, z38311, e38309, b38312⟩ := p38307
              subst e38308
              subst e38309
              subst e38310
              show wp _ _ 127 59 [(3, vI v38268), (0, .ref r0), (1, .ref r1), (2, vI a2)] [vI z38311] _ H38295 _
              refine wp_of e127 c127_59 (rw_istore (pc' := 61) (z := z38311) (L' := [(4, vI z38311), (3, vI v38268), (0, .ref r0), (1, .ref r1), (2, vI a2)]) rfl rfl rfl ?_)
              refine wp_of e127 c127_61 (rw_aload_n (pc' := 62) (v := .ref r0) rfl rfl rfl ?_)
              refine wp_of e127 c127_62 (xg_R (pc' := 65) lf_5_21 w38297 g0 sh_20 (by decide) (by decide) ty_20_3 rfl rfl (fun r38313 q38314 g38315 => ?_))
              refine wp_of e127 c127_65 (rw_iload (pc' := 67) (z := z38311) rfl rfl ?_)
              refine wp_of e127 c127_67 (xa_I (so := 0) (pc' := 68) w38297 g38315 sh_24 (by decide) (ty_24 _) (by omega) (by omega) rfl (fun b38316 b38317 => ?_))
              refine wp_of e127 c127_68 (rw_if_ge (p1 := 82) (p2 := 71) (by decide) rfl ⟨by omega, by omega⟩ (fun c38318 => ?_) (fun c38318 => ?_))
              · refine wp_of e127 c127_82 (rw_aload_n (pc' := 83) (v := .ref r0) rfl rfl rfl ?_)
                refine wp_of e127 c127_83 (xg_R (pc' := 86) lf_5_15 w38297 g0 sh_20 (by decide) (by decide) ty_20_1 rfl rfl (fun r38319 q38320 g38321 => ?_))
                refine wp_of e127 c127_86 (rw_aload_n (pc' := 87) (v := .ref r0) rfl rfl rfl ?_)
                refine wp_of e127 c127_87 (xg_K (pc' := 90) lf_5_21 w38297 g0 sh_20 (by decide) (by decide) rfl q38314 rfl ?_)
                refine wp_of e127 c127_90 (rw_iload (pc' := 92) (z := z38311) rfl rfl ?_)
                refine wp_of e127 c127_92 (xa_I (so := 0) (pc' := 93) w38297 g38315 sh_24 (by decide) (ty_24 _) (by omega) (by omega) rfl (fun b38322 b38323 => ?_))
                refine wp_of e127 c127_93 (xa_I (so := 0) (pc' := 94) w38297 g38321 sh_22 (by decide) (ty_22 _) (by omega) (by omega) rfl (fun b38324 b38325 => ?_))
                refine wp_of e127 c127_94 (rw_aload_n (pc' := 95) (v := .ref r0) rfl rfl rfl ?_)
                refine wp_of e127 c127_95 (xg_K (pc' := 98) lf_5_15 w38297 g0 sh_20 (by decide) (by decide) rfl q38320 rfl ?_)
                refine wp_of e127 c127_98 (rw_iload_n (pc' := 99) (z := v38268) rfl rfl ?_)
                refine wp_of e127 c127_99 (xa_I (so := 0) (pc' := 100) w38297 g38321 sh_22 (by decide) (ty_22 _) (by omega) (by omega) rfl (fun b38326 b38327 => ?_))
                refine wp_of e127 c127_100 (rw_icmp_eq (p1 := 105) (p2 := 103) (by decide) rfl ⟨by omega, by omega⟩ ⟨by omega, by omega⟩ (fun c38328 => ?_) (fun c38328 => ?_))
                · refine wp_of e127 c127_105 (rw_iinc (pc' := 108) (z := v38268) (L' := [(3, vI (v38268 + 1)), (4, vI z38311), (0, .ref r0), (1, .ref r1), (2, vI a2)]) rfl rfl rfl rfl ?_)
                  refine wp_of e127 c127_108 (rw_goto (p1 := 24) (by decide) ?_)
                  exact wp_lc (ks := [3, 4, 0, 1, 2]) (wl_c rfl (wl_c rfl (wl_c rfl (wl_c rfl wl_n)))) rfl (by decide) (ih38267 _ (by omega) (v38268 + 1) H38295 w38297 f38299 ⟨by omega, by omega⟩ rfl)
                · refine wp_of e127 c127_103 (rw_iconst (pc' := 104) rfl ?_)
                  exact wp_zreturn e127 c127_104 rfl (by omega) ⟨rfl, w38297, f38298, 0, rfl, ⟨by omega, by omega⟩⟩
              · refine wp_of e127 c127_71 (rw_aload_n (pc' := 72) (v := .ref r0) rfl rfl rfl ?_)
                refine wp_of e127 c127_72 (xg_K (pc' := 75) lf_5_21 w38297 g0 sh_20 (by decide) (by decide) rfl q38314 rfl ?_)
                refine wp_of e127 c127_75 (rw_iload (pc' := 77) (z := z38311) rfl rfl ?_)
                refine wp_of e127 c127_77 (rw_iload_n (pc' := 78) (z := v38268) rfl rfl ?_)
                refine wp_of e127 c127_78 (xs_I (pc' := 79) w38297 g38315 (by decide) sh_24 (by decide) (ty_24 _) (by omega) (by omega) ⟨by omega, by omega⟩ (by omega) (by omega) rfl (fun H38329 e38330 w38331 => ?_))
                have f38332 := f38298.put' e38330 g38315 rfl
                have f38333 := f38299.put' e38330 g38315 rfl
                refine wp_of e127 c127_79 (rw_goto (p1 := 105) (by decide) ?_)
                refine wp_of e127 c127_105 (rw_iinc (pc' := 108) (z := v38268) (L' := [(3, vI (v38268 + 1)), (4, vI z38311), (0, .ref r0), (1, .ref r1), (2, vI a2)]) rfl rfl rfl rfl ?_)
                refine wp_of e127 c127_108 (rw_goto (p1 := 24) (by decide) ?_)
                exact wp_lc (ks := [3, 4, 0, 1, 2]) (wl_c rfl (wl_c rfl (wl_c rfl (wl_c rfl wl_n)))) rfl (by decide) (ih38267 _ (by omega) (v38268 + 1) H38329 w38331 f38333 ⟨by omega, by omega⟩ rfl)
        exact wp_lc (ks := [3, 0, 1, 2]) (wl_c rfl (wl_c rfl (wl_c rfl (wl_c rfl wl_n)))) rfl (by decide) (lp38265 _ 0 H37802 w37803 wfr.rf ⟨by omega, by omega⟩ rfl)
      · refine wp_of e127 c127_9 (rw_aload_n (pc' := 10) (v := .ref r0) rfl rfl rfl ?_)
        refine wp_of e127 c127_10 (xg_R (pc' := 13) lf_5_21 w37803 g0 sh_20 (by decide) (by decide) ty_20_3 rfl rfl (fun r38334 q38335 g38336 => ?_))
        refine wp_of e127 c127_13 (rw_iload_n (pc' := 14) (z := v37801) rfl rfl ?_)
        refine wp_of e127 c127_14 (rw_iconst (pc' := 15) rfl ?_)
        refine wp_of e127 c127_15 (xs_I (pc' := 16) w37803 g38336 (by decide) sh_24 (by decide) (ty_24 _) (by omega) (by omega) ⟨by omega, by omega⟩ (by omega) (by omega) rfl (fun H38337 e38338 w38339 => ?_))
        have f38340 := f37807.put' e38338 g38336 rfl
        have f38341 := f37804.put' e38338 g38336 rfl
        refine wp_of e127 c127_16 (rw_iinc (pc' := 19) (z := v37801) (L' := [(3, vI (v37801 + 1)), (0, .ref r0), (1, .ref r1), (2, vI a2)]) rfl rfl rfl rfl ?_)
        refine wp_of e127 c127_19 (rw_goto (p1 := 2) (by decide) ?_)
        exact wp_lc (ks := [3, 0, 1, 2]) (wl_c rfl (wl_c rfl (wl_c rfl (wl_c rfl wl_n)))) rfl (by decide) (ih37800 _ (by omega) (v37801 + 1) H38337 w38339 f38341 ⟨by omega, by omega⟩ rfl)
  exact wp_lc (ks := [3, 0, 1, 2]) (wl_c rfl (wl_c rfl (wl_c rfl (wl_c rfl wl_n)))) rfl (by decide) (lp37798 _ 0 H hW wfr.rf ⟨by omega, by omega⟩ rfl)
/-! StrikeAwake$Asking.fewest(LStrikeAwake$Parish;)I -/
theorem e125 : wq_en 125 = some (5, 5, false, some FieldType.int) := rfl
theorem cg125_0 : mc_cd 125 0 = some (.iconst 1, 1) ∧ mc_cd 125 1 = some (.aload_n 1, 1) ∧ mc_cd 125 2 = some (.getfield 46, 3) ∧ mc_cd 125 5 = some (.ishl, 1) ∧ mc_cd 125 6 = some (.iconst 1, 1) ∧ mc_cd 125 7 = some (.isub, 1) ∧ mc_cd 125 8 = some (.istore_n 2, 1) ∧ mc_cd 125 9 = some (.iconst 0, 1) := by decide +kernel
theorem c125_0 : mc_cd 125 0 = some (.iconst 1, 1) := cg125_0.1
theorem c125_1 : mc_cd 125 1 = some (.aload_n 1, 1) := cg125_0.2.1
theorem c125_2 : mc_cd 125 2 = some (.getfield 46, 3) := cg125_0.2.2.1
theorem c125_5 : mc_cd 125 5 = some (.ishl, 1) := cg125_0.2.2.2.1
theorem c125_6 : mc_cd 125 6 = some (.iconst 1, 1) := cg125_0.2.2.2.2.1
theorem c125_7 : mc_cd 125 7 = some (.isub, 1) := cg125_0.2.2.2.2.2.1
theorem c125_8 : mc_cd 125 8 = some (.istore_n 2, 1) := cg125_0.2.2.2.2.2.2.1
theorem c125_9 : mc_cd 125 9 = some (.iconst 0, 1) := cg125_0.2.2.2.2.2.2.2
theorem cg125_10 : mc_cd 125 10 = some (.istore_n 3, 1) ∧ mc_cd 125 11 = some (.iload_n 3, 1) ∧ mc_cd 125 12 = some (.aload_n 1, 1) ∧ mc_cd 125 13 = some (.getfield 46, 3) ∧ mc_cd 125 16 = some (.if_icmp .ge 46, 3) ∧ mc_cd 125 19 = some (.iconst 0, 1) ∧ mc_cd 125 20 = some (.istore 4, 2) ∧ mc_cd 125 22 = some (.iload 4, 2) := by decide +kernel
theorem c125_10 : mc_cd 125 10 = some (.istore_n 3, 1) := cg125_10.1
theorem c125_11 : mc_cd 125 11 = some (.iload_n 3, 1) := cg125_10.2.1
theorem c125_12 : mc_cd 125 12 = some (.aload_n 1, 1) := cg125_10.2.2.1
theorem c125_13 : mc_cd 125 13 = some (.getfield 46, 3) := cg125_10.2.2.2.1
theorem c125_16 : mc_cd 125 16 = some (.if_icmp .ge 46, 3) := cg125_10.2.2.2.2.1
theorem c125_19 : mc_cd 125 19 = some (.iconst 0, 1) := cg125_10.2.2.2.2.2.1
theorem c125_20 : mc_cd 125 20 = some (.istore 4, 2) := cg125_10.2.2.2.2.2.2.1
theorem c125_22 : mc_cd 125 22 = some (.iload 4, 2) := cg125_10.2.2.2.2.2.2.2
theorem cg125_24 : mc_cd 125 24 = some (.iload_n 2, 1) ∧ mc_cd 125 25 = some (.if_icmp .ge 31, 3) ∧ mc_cd 125 28 = some (.iload 4, 2) ∧ mc_cd 125 30 = some (.invokestatic 51, 3) ∧ mc_cd 125 33 = some (.iload_n 3, 1) ∧ mc_cd 125 34 = some (.if_icmp .ne 16, 3) ∧ mc_cd 125 37 = some (.aload_n 0, 1) ∧ mc_cd 125 38 = some (.aload_n 1, 1) := by decide +kernel
theorem c125_24 : mc_cd 125 24 = some (.iload_n 2, 1) := cg125_24.1
theorem c125_25 : mc_cd 125 25 = some (.if_icmp .ge 31, 3) := cg125_24.2.1
theorem c125_28 : mc_cd 125 28 = some (.iload 4, 2) := cg125_24.2.2.1
theorem c125_30 : mc_cd 125 30 = some (.invokestatic 51, 3) := cg125_24.2.2.2.1
theorem c125_33 : mc_cd 125 33 = some (.iload_n 3, 1) := cg125_24.2.2.2.2.1
theorem c125_34 : mc_cd 125 34 = some (.if_icmp .ne 16, 3) := cg125_24.2.2.2.2.2.1
theorem c125_37 : mc_cd 125 37 = some (.aload_n 0, 1) := cg125_24.2.2.2.2.2.2.1
theorem c125_38 : mc_cd 125 38 = some (.aload_n 1, 1) := cg125_24.2.2.2.2.2.2.2
theorem cg125_39 : mc_cd 125 39 = some (.iload 4, 2) ∧ mc_cd 125 41 = some (.invokevirtual 57, 3) ∧ mc_cd 125 44 = some (.ifCond .eq 6, 3) ∧ mc_cd 125 47 = some (.iload 4, 2) ∧ mc_cd 125 49 = some (.ireturn, 1) ∧ mc_cd 125 50 = some (.iinc 4 1, 3) ∧ mc_cd 125 53 = some (.goto (-31), 3) ∧ mc_cd 125 56 = some (.iinc 3 1, 3) := by decide +kernel
theorem c125_39 : mc_cd 125 39 = some (.iload 4, 2) := cg125_39.1
theorem c125_41 : mc_cd 125 41 = some (.invokevirtual 57, 3) := cg125_39.2.1
theorem c125_44 : mc_cd 125 44 = some (.ifCond .eq 6, 3) := cg125_39.2.2.1
theorem c125_47 : mc_cd 125 47 = some (.iload 4, 2) := cg125_39.2.2.2.1
theorem c125_49 : mc_cd 125 49 = some (.ireturn, 1) := cg125_39.2.2.2.2.1
theorem c125_50 : mc_cd 125 50 = some (.iinc 4 1, 3) := cg125_39.2.2.2.2.2.1
theorem c125_53 : mc_cd 125 53 = some (.goto (-31), 3) := cg125_39.2.2.2.2.2.2.1
theorem c125_56 : mc_cd 125 56 = some (.iinc 3 1, 3) := cg125_39.2.2.2.2.2.2.2
theorem cg125_59 : mc_cd 125 59 = some (.goto (-48), 3) ∧ mc_cd 125 62 = some (.iload_n 2, 1) ∧ mc_cd 125 63 = some (.ireturn, 1) := by decide +kernel
theorem c125_59 : mc_cd 125 59 = some (.goto (-48), 3) := cg125_59.1
theorem c125_62 : mc_cd 125 62 = some (.iload_n 2, 1) := cg125_59.2.1
theorem c125_63 : mc_cd 125 63 = some (.ireturn, 1) := cg125_59.2.2
abbrev q_125 (r0 : Nat) (r1 : Nat) (T : wq_T) (H : wq_H) : Option Value → wq_T → wq_H → Prop := fun r T' H' => T = T' ∧ WT T H' ∧ wfr [(23, 999), (24, 999)] T H H' ∧ ∃ z : Int, some (vI z) = r ∧ ((-2147483648) ≤ z ∧ z ≤ 2147483647)
set_option maxHeartbeats 4000000 in
theorem s_125 {kt : Nat → Option mc_E} {T : wq_T} {H : wq_H} {r0 : Nat} {r1 : Nat} (hW : WT T H) (g0 : T.2.2.2 r0 = some 20) (g1 : T.2.2.2 r1 = some 27) : wpc kt 4 125 [.ref r0, .ref r1] T H (q_125 r0 r1 T H) := by
  refine wp_enter e125 (Nat.le_of_ble_eq_true rfl) rfl ?_
  have f0 : wfr [(23, 999), (24, 999)] T H H := wfr.rf
  show wp _ _ 125 0 [(0, .ref r0), (1, .ref r1)] [] _ H _
  refine wp_of e125 c125_0 (rw_iconst (pc' := 1) rfl ?_)
  refine wp_of e125 c125_1 (rw_aload_n (pc' := 2) (v := .ref r1) rfl rfl rfl ?_)
  refine wp_of e125 c125_2 (xg_I (pc' := 5) lf_5_46 hW g1 sh_27 (by decide) (by decide) ty_27_10 rfl rfl (fun b40043 b40044 => ?_))
  refine wp_of e125 c125_5 (rw_ishl (pc' := 6) rfl ?_)
  obtain ⟨v40045, e40046⟩ : ∃ x : Int, x = wq_shl 1 (H r1 10) := ⟨_, rfl⟩
  rw [← e40046]
  have b40047 : 1 ≤ v40045 ∧ v40045 ≤ 64 := by
    rw [e40046]
    exact wq_shl1_6 ⟨by omega, by omega⟩
  refine wp_of e125 c125_6 (rw_iconst (pc' := 7) rfl ?_)
  refine wp_of e125 c125_7 (rw_isub (pc' := 8) rfl ?_)
  refine wp_of e125 c125_8 (rw_istore_n (pc' := 9) (z := v40045 - 1) (L' := [(2, vI (v40045 - 1)), (0, .ref r0), (1, .ref r1)]) rfl rfl rfl ?_)
  refine wp_of e125 c125_9 (rw_iconst (pc' := 10) rfl ?_)
  refine wp_of e125 c125_10 (rw_istore_n (pc' := 11) (z := 0) (L' := [(3, vI 0), (2, vI (v40045 - 1)), (0, .ref r0), (1, .ref r1)]) rfl rfl rfl ?_)
  have lp41532 : ∀ (n41533 : Nat) (v41535 : Int) (H41536 : wq_H), WT T H41536 → wfr [(23, 999), (24, 999)] T H H41536 → (0 ≤ v41535 ∧ v41535 ≤ 6) → (6 - v41535).toNat = n41533 → wp kt 3 125 11 [(3, vI v41535), (2, vI (v40045 - 1)), (0, .ref r0), (1, .ref r1)] [] T H41536 (q_125 r0 r1 T H) := by
    intro n41533
    induction n41533 using Nat.strongRecOn with
    | _ n41533 ih41534 =>
      intro v41535 H41536 w41537 f41538 b41539 m41540
      have f41541 := f0.tr f41538 rfl
      refine wp_of e125 c125_11 (rw_iload_n (pc' := 12) (z := v41535) rfl rfl ?_)
      refine wp_of e125 c125_12 (rw_aload_n (pc' := 13) (v := .ref r1) rfl rfl rfl ?_)
      have k41542 : H41536 r1 10 = H r1 10 := (f41538 r1 10 _ g1 rfl)
      refine wp_of e125 c125_13 (xg_I (pc' := 16) lf_5_46 w41537 g1 sh_27 (by decide) (by decide) ty_27_10 rfl rfl (fun b41543 b41544 => ?_))
      refine wp_of e125 c125_16 (rw_icmp_ge (p1 := 62) (p2 := 19) (by decide) rfl ⟨by omega, by omega⟩ ⟨by omega, by omega⟩ (fun c41545 => ?_) (fun c41545 => ?_))
      · refine wp_of e125 c125_62 (rw_iload_n (pc' := 63) (z := v40045 - 1) rfl rfl ?_)
        exact wp_ireturn e125 c125_63 rfl ⟨rfl, w41537, f41541, v40045 - 1, rfl, ⟨by omega, by omega⟩⟩
      · refine wp_of e125 c125_19 (rw_iconst (pc' := 20) rfl ?_)
        refine wp_of e125 c125_20 (rw_istore (pc' := 22) (z := 0) (L' := [(4, vI 0), (3, vI v41535), (2, vI (v40045 - 1)), (0, .ref r0), (1, .ref r1)]) rfl rfl rfl ?_)
        have lp41738 : ∀ (n41739 : Nat) (v41741 : Int) (H41742 : wq_H), WT T H41742 → wfr [(23, 999), (24, 999)] T H41536 H41742 → (0 ≤ v41741 ∧ v41741 ≤ 63) → (63 - v41741).toNat = n41739 → wp kt 3 125 22 [(4, vI v41741), (3, vI v41535), (2, vI (v40045 - 1)), (0, .ref r0), (1, .ref r1)] [] T H41742 (q_125 r0 r1 T H) := by
          intro n41739
          induction n41739 using Nat.strongRecOn with
          | _ n41739 ih41740 =>
            intro v41741 H41742 w41743 f41744 b41745 m41746
            have f41747 := f41541.tr f41744 rfl
            have f41748 := f41538.tr f41744 rfl
            refine wp_of e125 c125_22 (rw_iload (pc' := 24) (z := v41741) rfl rfl ?_)
            refine wp_of e125 c125_24 (rw_iload_n (pc' := 25) (z := v40045 - 1) rfl rfl ?_)
            refine wp_of e125 c125_25 (rw_icmp_ge (p1 := 56) (p2 := 28) (by decide) rfl ⟨by omega, by omega⟩ ⟨by omega, by omega⟩ (fun c41749 => ?_) (fun c41749 => ?_))
            · refine wp_of e125 c125_56 (rw_iinc (pc' := 59) (z := v41535) (L' := [(3, vI (v41535 + 1)), (4, vI v41741), (2, vI (v40045 - 1)), (0, .ref r0), (1, .ref r1)]) rfl rfl rfl rfl ?_)
              refine wp_of e125 c125_59 (rw_goto (p1 := 11) (by decide) ?_)
              exact wp_lc (ks := [3, 4, 2, 0, 1]) (wl_c rfl (wl_c rfl (wl_c rfl (wl_c rfl wl_n)))) rfl (by decide) (ih41534 _ (by omega) (v41535 + 1) H41742 w41743 f41748 ⟨by omega, by omega⟩ rfl)
            · refine wp_of e125 c125_28 (rw_iload (pc' := 30) (z := v41741) rfl rfl ?_)
              refine wp_of e125 c125_30 (xc_S (pc' := 33) (as := [vI v41741]) (st := []) (lm_5_51) rfl rfl (Nat.le_of_ble_eq_true rfl) rfl (by decide) (s_126 w41743 ⟨by omega, by omega⟩) (fun R41750 T41751 H41752 p41753 => ?_))
              obtain ⟨e41754, e41756, z41757, e41755, b41758⟩ := p41753
              subst e41754
              subst e41755
              subst e41756
              show wp _ _ 125 33 [(4, vI v41741), (3, vI v41535), (2, vI (v40045 - 1)), (0, .ref r0), (1, .ref r1)] [vI z41757] _ H41742 _
              refine wp_of e125 c125_33 (rw_iload_n (pc' := 34) (z := v41535) rfl rfl ?_)
              refine wp_of e125 c125_34 (rw_icmp_ne (p1 := 50) (p2 := 37) (by decide) rfl ⟨by omega, by omega⟩ ⟨by omega, by omega⟩ (fun c41759 => ?_) (fun c41759 => ?_))
              · refine wp_of e125 c125_50 (rw_iinc (pc' := 53) (z := v41741) (L' := [(4, vI (v41741 + 1)), (3, vI v41535), (2, vI (v40045 - 1)), (0, .ref r0), (1, .ref r1)]) rfl rfl rfl rfl ?_)
                refine wp_of e125 c125_53 (rw_goto (p1 := 22) (by decide) ?_)
                exact wp_lc (ks := [4, 3, 2, 0, 1]) (wl_c rfl (wl_c rfl (wl_c rfl (wl_c rfl (wl_c rfl wl_n))))) rfl (by decide) (ih41740 _ (by omega) (v41741 + 1) H41742 w41743 f41744 ⟨by omega, by omega⟩ rfl)
              · refine wp_of e125 c125_37 (rw_aload_n (pc' := 38) (v := .ref r0) rfl rfl rfl ?_)
                refine wp_of e125 c125_38 (rw_aload_n (pc' := 39) (v := .ref r1) rfl rfl rfl ?_)
                refine wp_of e125 c125_39 (rw_iload (pc' := 41) (z := v41741) rfl rfl ?_)
                refine wp_of e125 c125_41 (xc_V (pc' := 44) (r := r0) (as := [.ref r1, vI v41741]) (st := []) (lm_5_57) rfl rfl (Nat.le_of_ble_eq_true rfl) w41743 g0 sh_20 (by decide) rfl (by decide) (s_127 w41743 g0 g1 ⟨by omega, by omega⟩) (fun R41760 T41761 H41762 p41763 => ?_))
                obtain ⟨e41764, w41766, f41767, z41768, e41765, b41769⟩ := p41763
                subst e41764
                subst e41765
                have f41770 := f41747.tr f41767 rfl
                have f41771 := f41748.tr f41767 rfl
                have f41772 := f41744.tr f41767 rfl
                show wp _ _ 125 44 [(4, vI v41741), (3, vI v41535), (2, vI (v40045 - 1)), (0, .ref r0), (1, .ref r1)] [vI z41768] _ H41762 _
                refine wp_of e125 c125_44 (rw_if_eq (p1 := 50) (p2 := 47) (by decide) rfl ⟨by omega, by omega⟩ (fun c41773 => ?_) (fun c41773 => ?_))
                · refine wp_of e125 c125_50 (rw_iinc (pc' := 53) (z := v41741) (L' := [(4, vI (v41741 + 1)), (3, vI v41535), (2, vI (v40045 - 1)), (0, .ref r0), (1, .ref r1)]) rfl rfl rfl rfl ?_)
                  refine wp_of e125 c125_53 (rw_goto (p1 := 22) (by decide) ?_)
                  exact wp_lc (ks := [4, 3, 2, 0, 1]) (wl_c rfl (wl_c rfl (wl_c rfl (wl_c rfl (wl_c rfl wl_n))))) rfl (by decide) (ih41740 _ (by omega) (v41741 + 1) H41762 w41766 f41772 ⟨by omega, by omega⟩ rfl)
                · refine wp_of e125 c125_47 (rw_iload (pc' := 49) (z := v41741) rfl rfl ?_)
                  exact wp_ireturn e125 c125_49 rfl ⟨rfl, w41766, f41770, v41741, rfl, ⟨by omega, by omega⟩⟩
        exact wp_lc (ks := [4, 3, 2, 0, 1]) (wl_c rfl (wl_c rfl (wl_c rfl (wl_c rfl (wl_c rfl wl_n))))) rfl (by decide) (lp41738 _ 0 H41536 w41537 wfr.rf ⟨by omega, by omega⟩ rfl)
  exact wp_lc (ks := [3, 2, 0, 1]) (wl_c rfl (wl_c rfl (wl_c rfl (wl_c rfl wl_n)))) rfl (by decide) (lp41532 _ 0 H hW wfr.rf ⟨by omega, by omega⟩ rfl)
/-! StrikeAwake$Asking.fewestForAll(LStrikeAwake$Parish;LStrikeAwake$Census;)I -/
theorem e122 : wq_en 122 = some (5, 4, false, some FieldType.int) := rfl
theorem cg122_0 : mc_cd 122 0 = some (.aload_n 0, 1) ∧ mc_cd 122 1 = some (.aload_n 1, 1) ∧ mc_cd 122 2 = some (.aload_n 2, 1) ∧ mc_cd 122 3 = some (.invokevirtual 24, 3) ∧ mc_cd 122 6 = some (.iconst 0, 1) ∧ mc_cd 122 7 = some (.istore_n 3, 1) ∧ mc_cd 122 8 = some (.iload_n 3, 1) ∧ mc_cd 122 9 = some (.aload_n 0, 1) := by decide +kernel
theorem c122_0 : mc_cd 122 0 = some (.aload_n 0, 1) := cg122_0.1
theorem c122_1 : mc_cd 122 1 = some (.aload_n 1, 1) := cg122_0.2.1
theorem c122_2 : mc_cd 122 2 = some (.aload_n 2, 1) := cg122_0.2.2.1
theorem c122_3 : mc_cd 122 3 = some (.invokevirtual 24, 3) := cg122_0.2.2.2.1
theorem c122_6 : mc_cd 122 6 = some (.iconst 0, 1) := cg122_0.2.2.2.2.1
theorem c122_7 : mc_cd 122 7 = some (.istore_n 3, 1) := cg122_0.2.2.2.2.2.1
theorem c122_8 : mc_cd 122 8 = some (.iload_n 3, 1) := cg122_0.2.2.2.2.2.2.1
theorem c122_9 : mc_cd 122 9 = some (.aload_n 0, 1) := cg122_0.2.2.2.2.2.2.2
theorem cg122_10 : mc_cd 122 10 = some (.getfield 28, 3) ∧ mc_cd 122 13 = some (.if_icmp .ge 21, 3) ∧ mc_cd 122 16 = some (.aload_n 0, 1) ∧ mc_cd 122 17 = some (.getfield 15, 3) ∧ mc_cd 122 20 = some (.iload_n 3, 1) ∧ mc_cd 122 21 = some (.aload_n 0, 1) ∧ mc_cd 122 22 = some (.getfield 9, 3) ∧ mc_cd 122 25 = some (.iload_n 3, 1) := by decide +kernel
theorem c122_10 : mc_cd 122 10 = some (.getfield 28, 3) := cg122_10.1
theorem c122_13 : mc_cd 122 13 = some (.if_icmp .ge 21, 3) := cg122_10.2.1
theorem c122_16 : mc_cd 122 16 = some (.aload_n 0, 1) := cg122_10.2.2.1
theorem c122_17 : mc_cd 122 17 = some (.getfield 15, 3) := cg122_10.2.2.2.1
theorem c122_20 : mc_cd 122 20 = some (.iload_n 3, 1) := cg122_10.2.2.2.2.1
theorem c122_21 : mc_cd 122 21 = some (.aload_n 0, 1) := cg122_10.2.2.2.2.2.1
theorem c122_22 : mc_cd 122 22 = some (.getfield 9, 3) := cg122_10.2.2.2.2.2.2.1
theorem c122_25 : mc_cd 122 25 = some (.iload_n 3, 1) := cg122_10.2.2.2.2.2.2.2
theorem cg122_26 : mc_cd 122 26 = some (.iaload, 1) ∧ mc_cd 122 27 = some (.iastore, 1) ∧ mc_cd 122 28 = some (.iinc 3 1, 3) ∧ mc_cd 122 31 = some (.goto (-23), 3) ∧ mc_cd 122 34 = some (.aload_n 0, 1) ∧ mc_cd 122 35 = some (.aload_n 1, 1) ∧ mc_cd 122 36 = some (.invokevirtual 32, 3) ∧ mc_cd 122 39 = some (.ireturn, 1) := by decide +kernel
theorem c122_26 : mc_cd 122 26 = some (.iaload, 1) := cg122_26.1
theorem c122_27 : mc_cd 122 27 = some (.iastore, 1) := cg122_26.2.1
theorem c122_28 : mc_cd 122 28 = some (.iinc 3 1, 3) := cg122_26.2.2.1
theorem c122_31 : mc_cd 122 31 = some (.goto (-23), 3) := cg122_26.2.2.2.1
theorem c122_34 : mc_cd 122 34 = some (.aload_n 0, 1) := cg122_26.2.2.2.2.1
theorem c122_35 : mc_cd 122 35 = some (.aload_n 1, 1) := cg122_26.2.2.2.2.2.1
theorem c122_36 : mc_cd 122 36 = some (.invokevirtual 32, 3) := cg122_26.2.2.2.2.2.2.1
theorem c122_39 : mc_cd 122 39 = some (.ireturn, 1) := cg122_26.2.2.2.2.2.2.2
abbrev q_122 (r0 : Nat) (r1 : Nat) (r2 : Nat) (T : wq_T) (H : wq_H) : Option Value → wq_T → wq_H → Prop := fun r T' H' => T = T' ∧ WT T H' ∧ wfr [(20, 4), (22, 999), (23, 999), (21, 999), (24, 999)] T H H' ∧ ∃ z : Int, some (vI z) = r ∧ ((-2147483648) ≤ z ∧ z ≤ 2147483647)
set_option maxHeartbeats 4000000 in
theorem s_122 {kt : Nat → Option mc_E} {T : wq_T} {H : wq_H} {r0 : Nat} {r1 : Nat} {r2 : Nat} (hW : WT T H) (g0 : T.2.2.2 r0 = some 20) (g1 : T.2.2.2 r1 = some 27) (g2 : T.2.2.2 r2 = some 12) : wpc kt 5 122 [.ref r0, .ref r1, .ref r2] T H (q_122 r0 r1 r2 T H) := by
  refine wp_enter e122 (Nat.le_of_ble_eq_true rfl) rfl ?_
  have f0 : wfr [(20, 4), (22, 999), (23, 999), (21, 999), (24, 999)] T H H := wfr.rf
  show wp _ _ 122 0 [(0, .ref r0), (1, .ref r1), (2, .ref r2)] [] _ H _
  refine wp_of e122 c122_0 (rw_aload_n (pc' := 1) (v := .ref r0) rfl rfl rfl ?_)
  refine wp_of e122 c122_1 (rw_aload_n (pc' := 2) (v := .ref r1) rfl rfl rfl ?_)
  refine wp_of e122 c122_2 (rw_aload_n (pc' := 3) (v := .ref r2) rfl rfl rfl ?_)
  refine wp_of e122 c122_3 (xc_V (pc' := 6) (r := r0) (as := [.ref r1, .ref r2]) (st := []) (lm_5_24) rfl rfl (Nat.le_of_ble_eq_true rfl) hW g0 sh_20 (by decide) rfl (by decide) (s_123 hW g0 g1 g2) (fun R41930 T41931 H41932 p41933 => ?_))
  obtain ⟨e41934, w41936, f41937, e41935⟩ := p41933
  subst e41934
  subst e41935
  have f41938 := f0.tr f41937 rfl
  show wp _ _ 122 6 [(0, .ref r0), (1, .ref r1), (2, .ref r2)] [] _ H41932 _
  refine wp_of e122 c122_6 (rw_iconst (pc' := 7) rfl ?_)
  refine wp_of e122 c122_7 (rw_istore_n (pc' := 8) (z := 0) (L' := [(3, vI 0), (0, .ref r0), (1, .ref r1), (2, .ref r2)]) rfl rfl rfl ?_)
  have lp42059 : ∀ (n42060 : Nat) (v42062 : Int) (H42063 : wq_H), WT T H42063 → wfr [(22, 999)] T H41932 H42063 → (0 ≤ v42062 ∧ v42062 ≤ 400) → (400 - v42062).toNat = n42060 → wp kt 4 122 8 [(3, vI v42062), (0, .ref r0), (1, .ref r1)] [] T H42063 (q_122 r0 r1 r2 T H) := by
    intro n42060
    induction n42060 using Nat.strongRecOn with
    | _ n42060 ih42061 =>
      intro v42062 H42063 w42064 f42065 b42066 m42067
      have f42068 := f41938.tr f42065 rfl
      refine wp_of e122 c122_8 (rw_iload_n (pc' := 9) (z := v42062) rfl rfl ?_)
      refine wp_of e122 c122_9 (rw_aload_n (pc' := 10) (v := .ref r0) rfl rfl rfl ?_)
      refine wp_of e122 c122_10 (xg_I (pc' := 13) lf_5_28 w42064 g0 sh_20 (by decide) (by decide) ty_20_4 rfl rfl (fun b42069 b42070 => ?_))
      refine wp_of e122 c122_13 (rw_icmp_ge (p1 := 34) (p2 := 16) (by decide) rfl ⟨by omega, by omega⟩ ⟨by omega, by omega⟩ (fun c42071 => ?_) (fun c42071 => ?_))
      · refine wp_of e122 c122_34 (rw_aload_n (pc' := 35) (v := .ref r0) rfl rfl rfl ?_)
        refine wp_of e122 c122_35 (rw_aload_n (pc' := 36) (v := .ref r1) rfl rfl rfl ?_)
        refine wp_of e122 c122_36 (xc_V (pc' := 39) (r := r0) (as := [.ref r1]) (st := []) (lm_5_32) rfl rfl (Nat.le_of_ble_eq_true rfl) w42064 g0 sh_20 (by decide) rfl (by decide) (s_125 w42064 g0 g1) (fun R42072 T42073 H42074 p42075 => ?_))
        obtain ⟨e42076, w42078, f42079, z42080, e42077, b42081⟩ := p42075
        subst e42076
        subst e42077
        have f42082 := f42068.tr f42079 rfl
        show wp _ _ 122 39 [(3, vI v42062), (0, .ref r0), (1, .ref r1)] [vI z42080] _ H42074 _
        exact wp_ireturn e122 c122_39 rfl ⟨rfl, w42078, f42082, z42080, rfl, ⟨by omega, by omega⟩⟩
      · refine wp_of e122 c122_16 (rw_aload_n (pc' := 17) (v := .ref r0) rfl rfl rfl ?_)
        refine wp_of e122 c122_17 (xg_R (pc' := 20) lf_5_15 w42064 g0 sh_20 (by decide) (by decide) ty_20_1 rfl rfl (fun r42083 q42084 g42085 => ?_))
        refine wp_of e122 c122_20 (rw_iload_n (pc' := 21) (z := v42062) rfl rfl ?_)
        refine wp_of e122 c122_21 (rw_aload_n (pc' := 22) (v := .ref r0) rfl rfl rfl ?_)
        refine wp_of e122 c122_22 (xg_R (pc' := 25) lf_5_9 w42064 g0 sh_20 (by decide) (by decide) ty_20_0 rfl rfl (fun r42086 q42087 g42088 => ?_))
        refine wp_of e122 c122_25 (rw_iload_n (pc' := 26) (z := v42062) rfl rfl ?_)
        refine wp_of e122 c122_26 (xa_I (so := 0) (pc' := 27) w42064 g42088 sh_21 (by decide) (ty_21 _) (by omega) (by omega) rfl (fun b42089 b42090 => ?_))
        refine wp_of e122 c122_27 (xs_I (pc' := 28) w42064 g42085 (by decide) sh_22 (by decide) (ty_22 _) (by omega) (by omega) ⟨by omega, by omega⟩ (by omega) (by omega) rfl (fun H42091 e42092 w42093 => ?_))
        have f42094 := f42068.put' e42092 g42085 rfl
        have f42095 := f42065.put' e42092 g42085 rfl
        refine wp_of e122 c122_28 (rw_iinc (pc' := 31) (z := v42062) (L' := [(3, vI (v42062 + 1)), (0, .ref r0), (1, .ref r1)]) rfl rfl rfl rfl ?_)
        refine wp_of e122 c122_31 (rw_goto (p1 := 8) (by decide) ?_)
        exact wp_lc (ks := [3, 0, 1]) (wl_c rfl (wl_c rfl (wl_c rfl wl_n))) rfl (by decide) (ih42061 _ (by omega) (v42062 + 1) H42091 w42093 f42095 ⟨by omega, by omega⟩ rfl)
  exact wp_lc (ks := [3, 0, 1, 2]) (wl_c rfl (wl_c rfl (wl_c rfl wl_n))) rfl (by decide) (lp42059 _ 0 H41932 w41936 wfr.rf ⟨by omega, by omega⟩ rfl)
/-! StrikeAwake.ask()I -/
theorem e120 : wq_en 120 = some (0, 2, false, some FieldType.int) := rfl
theorem cg120_0 : mc_cd 120 0 = some (.aload_n 0, 1) ∧ mc_cd 120 1 = some (.aload_n 0, 1) ∧ mc_cd 120 2 = some (.getfield 58, 3) ∧ mc_cd 120 5 = some (.invokevirtual 227, 3) ∧ mc_cd 120 8 = some (.istore_n 1, 1) ∧ mc_cd 120 9 = some (.iload_n 1, 1) ∧ mc_cd 120 10 = some (.ifCond .eq 9, 3) ∧ mc_cd 120 13 = some (.aload_n 0, 1) := by decide +kernel
theorem c120_0 : mc_cd 120 0 = some (.aload_n 0, 1) := cg120_0.1
theorem c120_1 : mc_cd 120 1 = some (.aload_n 0, 1) := cg120_0.2.1
theorem c120_2 : mc_cd 120 2 = some (.getfield 58, 3) := cg120_0.2.2.1
theorem c120_5 : mc_cd 120 5 = some (.invokevirtual 227, 3) := cg120_0.2.2.2.1
theorem c120_8 : mc_cd 120 8 = some (.istore_n 1, 1) := cg120_0.2.2.2.2.1
theorem c120_9 : mc_cd 120 9 = some (.iload_n 1, 1) := cg120_0.2.2.2.2.2.1
theorem c120_10 : mc_cd 120 10 = some (.ifCond .eq 9, 3) := cg120_0.2.2.2.2.2.2.1
theorem c120_13 : mc_cd 120 13 = some (.aload_n 0, 1) := cg120_0.2.2.2.2.2.2.2
theorem cg120_14 : mc_cd 120 14 = some (.iload_n 1, 1) ∧ mc_cd 120 15 = some (.invokevirtual 70, 3) ∧ mc_cd 120 18 = some (.ireturn, 1) ∧ mc_cd 120 19 = some (.aload_n 0, 1) ∧ mc_cd 120 20 = some (.aload_n 0, 1) ∧ mc_cd 120 21 = some (.getfield 37, 3) ∧ mc_cd 120 24 = some (.aload_n 0, 1) ∧ mc_cd 120 25 = some (.getfield 51, 3) := by decide +kernel
theorem c120_14 : mc_cd 120 14 = some (.iload_n 1, 1) := cg120_14.1
theorem c120_15 : mc_cd 120 15 = some (.invokevirtual 70, 3) := cg120_14.2.1
theorem c120_18 : mc_cd 120 18 = some (.ireturn, 1) := cg120_14.2.2.1
theorem c120_19 : mc_cd 120 19 = some (.aload_n 0, 1) := cg120_14.2.2.2.1
theorem c120_20 : mc_cd 120 20 = some (.aload_n 0, 1) := cg120_14.2.2.2.2.1
theorem c120_21 : mc_cd 120 21 = some (.getfield 37, 3) := cg120_14.2.2.2.2.2.1
theorem c120_24 : mc_cd 120 24 = some (.aload_n 0, 1) := cg120_14.2.2.2.2.2.2.1
theorem c120_25 : mc_cd 120 25 = some (.getfield 51, 3) := cg120_14.2.2.2.2.2.2.2
theorem cg120_28 : mc_cd 120 28 = some (.aload_n 0, 1) ∧ mc_cd 120 29 = some (.getfield 30, 3) ∧ mc_cd 120 32 = some (.invokevirtual 230, 3) ∧ mc_cd 120 35 = some (.invokevirtual 99, 3) ∧ mc_cd 120 38 = some (.ireturn, 1) := by decide +kernel
theorem c120_28 : mc_cd 120 28 = some (.aload_n 0, 1) := cg120_28.1
theorem c120_29 : mc_cd 120 29 = some (.getfield 30, 3) := cg120_28.2.1
theorem c120_32 : mc_cd 120 32 = some (.invokevirtual 230, 3) := cg120_28.2.2.1
theorem c120_35 : mc_cd 120 35 = some (.invokevirtual 99, 3) := cg120_28.2.2.2.1
theorem c120_38 : mc_cd 120 38 = some (.ireturn, 1) := cg120_28.2.2.2.2
