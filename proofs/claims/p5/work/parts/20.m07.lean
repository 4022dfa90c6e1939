/-! methods (own work, written by wip/gen2/sx.py) -/
/-! StrikeAwake$Census.awakeBeside(LStrikeAwake$Parish;II)I -/
theorem e115 : wq_en 115 = some (4, 7, false, some FieldType.int) := rfl
theorem c115_0 : mc_cd 115 0 = some (.iconst 0, 1) := by decide +kernel
theorem c115_1 : mc_cd 115 1 = some (.istore 4, 2) := by decide +kernel
theorem c115_3 : mc_cd 115 3 = some (.iconst 0, 1) := by decide +kernel
theorem c115_4 : mc_cd 115 4 = some (.istore 5, 2) := by decide +kernel
theorem c115_6 : mc_cd 115 6 = some (.iload 5, 2) := by decide +kernel
theorem c115_8 : mc_cd 115 8 = some (.i2l, 1) := by decide +kernel
theorem c115_9 : mc_cd 115 9 = some (.aload_n 1, 1) := by decide +kernel
theorem c115_10 : mc_cd 115 10 = some (.getfield 45, 3) := by decide +kernel
theorem c115_13 : mc_cd 115 13 = some (.lcmp, 1) := by decide +kernel
theorem c115_14 : mc_cd 115 14 = some (.ifCond .ge 75, 3) := by decide +kernel
theorem c115_17 : mc_cd 115 17 = some (.iload 5, 2) := by decide +kernel
theorem c115_19 : mc_cd 115 19 = some (.sipush 20000, 3) := by decide +kernel
theorem c115_22 : mc_cd 115 22 = some (.if_icmp .ge 67, 3) := by decide +kernel
theorem c115_25 : mc_cd 115 25 = some (.aload_n 0, 1) := by decide +kernel
theorem c115_26 : mc_cd 115 26 = some (.iload 5, 2) := by decide +kernel
theorem c115_28 : mc_cd 115 28 = some (.invokevirtual 113, 3) := by decide +kernel
theorem c115_31 : mc_cd 115 31 = some (.ifCond .eq 13, 3) := by decide +kernel
theorem c115_34 : mc_cd 115 34 = some (.aload_n 1, 1) := by decide +kernel
theorem c115_35 : mc_cd 115 35 = some (.iload 5, 2) := by decide +kernel
theorem c115_37 : mc_cd 115 37 = some (.iload_n 2, 1) := by decide +kernel
theorem c115_38 : mc_cd 115 38 = some (.invokevirtual 135, 3) := by decide +kernel
theorem c115_41 : mc_cd 115 41 = some (.goto 4, 3) := by decide +kernel
theorem c115_44 : mc_cd 115 44 = some (.iconst (-1), 1) := by decide +kernel
theorem c115_45 : mc_cd 115 45 = some (.istore 6, 2) := by decide +kernel
theorem c115_47 : mc_cd 115 47 = some (.iload 6, 2) := by decide +kernel
theorem c115_49 : mc_cd 115 49 = some (.ifCond .lt 34, 3) := by decide +kernel
theorem c115_52 : mc_cd 115 52 = some (.aload_n 1, 1) := by decide +kernel
theorem c115_53 : mc_cd 115 53 = some (.getfield 78, 3) := by decide +kernel
theorem c115_56 : mc_cd 115 56 = some (.iload_n 2, 1) := by decide +kernel
theorem c115_57 : mc_cd 115 57 = some (.aaload, 1) := by decide +kernel
theorem c115_58 : mc_cd 115 58 = some (.getfield 138, 3) := by decide +kernel
theorem c115_61 : mc_cd 115 61 = some (.iload 6, 2) := by decide +kernel
theorem c115_63 : mc_cd 115 63 = some (.iaload, 1) := by decide +kernel
theorem c115_64 : mc_cd 115 64 = some (.iload_n 3, 1) := by decide +kernel
theorem c115_65 : mc_cd 115 65 = some (.invokestatic 122, 3) := by decide +kernel
theorem c115_68 : mc_cd 115 68 = some (.ifCond .eq 15, 3) := by decide +kernel
theorem c115_71 : mc_cd 115 71 = some (.iload 4, 2) := by decide +kernel
theorem c115_73 : mc_cd 115 73 = some (.aload_n 1, 1) := by decide +kernel
theorem c115_74 : mc_cd 115 74 = some (.iload 5, 2) := by decide +kernel
theorem c115_76 : mc_cd 115 76 = some (.iload_n 3, 1) := by decide +kernel
theorem c115_77 : mc_cd 115 77 = some (.invokestatic 141, 3) := by decide +kernel
theorem c115_80 : mc_cd 115 80 = some (.ior, 1) := by decide +kernel
theorem c115_81 : mc_cd 115 81 = some (.istore 4, 2) := by decide +kernel
theorem c115_83 : mc_cd 115 83 = some (.iinc 5 1, 3) := by decide +kernel
theorem c115_86 : mc_cd 115 86 = some (.goto (-80), 3) := by decide +kernel
theorem c115_89 : mc_cd 115 89 = some (.iload 4, 2) := by decide +kernel
theorem c115_91 : mc_cd 115 91 = some (.ireturn, 1) := by decide +kernel
abbrev q_115 (r0 : Nat) (r1 : Nat) (a2 : Int) (a3 : Int) (T : wq_T) (H : wq_H) : Option Value → wq_T → wq_H → Prop := fun r T' H' => T = T' ∧ H = H' ∧ ∃ z : Int, some (vI z) = r ∧ ((-2147483648) ≤ z ∧ z ≤ 2147483647)
set_option maxHeartbeats 4000000 in
theorem s_115 {kt : Nat → Option mc_E} {T : wq_T} {H : wq_H} {r0 : Nat} {r1 : Nat} {a2 : Int} {a3 : Int} (hW : WT T H) (g0 : T.2.2.2 r0 = some 12) (g1 : T.2.2.2 r1 = some 27) (i2 : 0 ≤ a2 ∧ a2 ≤ 5) (i3 : (-2147483648) ≤ a3 ∧ a3 ≤ 2147483647) : wpc kt 4 115 [.ref r0, .ref r1, vI a2, vI a3] T H (q_115 r0 r1 a2 a3 T H) := by
  refine wp_enter e115 (Nat.le_of_ble_eq_true rfl) rfl ?_
  show wp _ _ 115 0 [(0, .ref r0), (1, .ref r1), (2, vI a2), (3, vI a3)] [] _ H _
  refine wp_of e115 c115_0 (rw_iconst (pc' := 1) rfl ?_)
  refine wp_of e115 c115_1 (rw_istore (pc' := 3) (z := 0) (L' := [(4, vI 0), (0, .ref r0), (1, .ref r1), (2, vI a2), (3, vI a3)]) rfl rfl rfl ?_)
  refine wp_of e115 c115_3 (rw_iconst (pc' := 4) rfl ?_)
  refine wp_of e115 c115_4 (rw_istore (pc' := 6) (z := 0) (L' := [(5, vI 0), (4, vI 0), (0, .ref r0), (1, .ref r1), (2, vI a2), (3, vI a3)]) rfl rfl rfl ?_)
  have lp34326 : ∀ (n34327 : Nat) (v34329 : Int) (v34330 : Int), (0 ≤ v34329 ∧ v34329 ≤ 20000) → ((-2147483648) ≤ v34330 ∧ v34330 ≤ 2147483647) → (20000 - v34329).toNat = n34327 → wp kt 3 115 6 [(5, vI v34329), (4, vI v34330), (0, .ref r0), (1, .ref r1), (2, vI a2), (3, vI a3)] [] T H (q_115 r0 r1 a2 a3 T H) := by
    intro n34327
    induction n34327 using Nat.strongRecOn with
    | _ n34327 ih34328 =>
      intro v34329 v34330 b34333 b34334 m34335
      refine wp_of e115 c115_6 (rw_iload (pc' := 8) (z := v34329) rfl rfl ?_)
      refine wp_of e115 c115_8 (rw_i2l (pc' := 9) rfl ⟨by omega, by omega⟩ ?_)
      refine wp_of e115 c115_9 (rw_aload_n (pc' := 10) (v := .ref r1) rfl rfl rfl ?_)
      refine wp_of e115 c115_10 (xg_L (pc' := 13) lf_4_45 hW g1 sh_27 (by decide) (by decide) ty_27_18 rfl rfl (fun b34336 b34337 => ?_))
      refine wp_of e115 c115_13 (rw_lcmp (pc' := 14) rfl ⟨by omega, by omega⟩ ⟨by omega, by omega⟩ ?_)
      have b34338 := wq_cmp_b v34329 (H r1 18)
      refine wp_of e115 c115_14 (rw_if_ge (p1 := 89) (p2 := 17) (by decide) rfl ⟨by omega, by omega⟩ (fun c34339 => ?_) (fun c34339 => ?_))
      · refine wp_of e115 c115_89 (rw_iload (pc' := 91) (z := v34330) rfl rfl ?_)
        exact wp_ireturn e115 c115_91 rfl ⟨rfl, rfl, v34330, rfl, ⟨by omega, by omega⟩⟩
      · refine wp_of e115 c115_17 (rw_iload (pc' := 19) (z := v34329) rfl rfl ?_)
        refine wp_of e115 c115_19 (rw_sipush (pc' := 22) (z := 20000) rfl (by decide) ?_)
        refine wp_of e115 c115_22 (rw_icmp_ge (p1 := 89) (p2 := 25) (by decide) rfl ⟨by omega, by omega⟩ ⟨by omega, by omega⟩ (fun c34340 => ?_) (fun c34340 => ?_))
        · refine wp_of e115 c115_89 (rw_iload (pc' := 91) (z := v34330) rfl rfl ?_)
          exact wp_ireturn e115 c115_91 rfl ⟨rfl, rfl, v34330, rfl, ⟨by omega, by omega⟩⟩
        · refine wp_of e115 c115_25 (rw_aload_n (pc' := 26) (v := .ref r0) rfl rfl rfl ?_)
          refine wp_of e115 c115_26 (rw_iload (pc' := 28) (z := v34329) rfl rfl ?_)
          refine wp_of e115 c115_28 (xc_V (pc' := 31) (r := r0) (as := [vI v34329]) (st := []) (lm_4_113) rfl rfl (Nat.le_of_ble_eq_true rfl) hW g0 sh_12 (by decide) rfl (by decide) (s_95 hW g0 ⟨by omega, by omega⟩) (fun R34341 T34342 H34343 p34344 => ?_))
          obtain ⟨e34345, e34347, z34348, e34346, b34349⟩ := p34344
          subst e34345
          subst e34346
          subst e34347
          show wp _ _ 115 31 [(5, vI v34329), (4, vI v34330), (0, .ref r0), (1, .ref r1), (2, vI a2), (3, vI a3)] [vI z34348] _ H _
          refine wp_of e115 c115_31 (rw_if_eq (p1 := 44) (p2 := 34) (by decide) rfl ⟨by omega, by omega⟩ (fun c34350 => ?_) (fun c34350 => ?_))
          · refine wp_of e115 c115_44 (rw_iconst (pc' := 45) rfl ?_)
            refine wp_of e115 c115_45 (rw_istore (pc' := 47) (z := -1) (L' := [(6, vI (-1)), (5, vI v34329), (4, vI v34330), (0, .ref r0), (1, .ref r1), (2, vI a2), (3, vI a3)]) rfl rfl rfl ?_)
            refine wp_of e115 c115_47 (rw_iload (pc' := 49) (z := -1) rfl rfl ?_)
            refine wp_of e115 c115_49 (rw_if_lt (p1 := 83) (p2 := 52) (by decide) rfl ⟨by omega, by omega⟩ (fun c34351 => ?_) (fun c34351 => ?_))
            · refine wp_of e115 c115_83 (rw_iinc (pc' := 86) (z := v34329) (L' := [(5, vI (v34329 + 1)), (6, vI (-1)), (4, vI v34330), (0, .ref r0), (1, .ref r1), (2, vI a2), (3, vI a3)]) rfl rfl rfl rfl ?_)
              refine wp_of e115 c115_86 (rw_goto (p1 := 6) (by decide) ?_)
              exact wp_lc (ks := [5, 6, 4, 0, 1, 2, 3]) (wl_c rfl (wl_c rfl (wl_c rfl (wl_c rfl (wl_c rfl (wl_c rfl wl_n)))))) rfl (by decide) (ih34328 _ (by omega) (v34329 + 1) v34330 ⟨by omega, by omega⟩ ⟨by omega, by omega⟩ rfl)
            · exfalso
              omega
          · refine wp_of e115 c115_34 (rw_aload_n (pc' := 35) (v := .ref r1) rfl rfl rfl ?_)
            refine wp_of e115 c115_35 (rw_iload (pc' := 37) (z := v34329) rfl rfl ?_)
            refine wp_of e115 c115_37 (rw_iload_n (pc' := 38) (z := a2) rfl rfl ?_)
            refine wp_of e115 c115_38 (xc_V (pc' := 41) (r := r1) (as := [vI v34329, vI a2]) (st := []) (lm_4_135) rfl rfl (Nat.le_of_ble_eq_true rfl) hW g1 sh_27 (by decide) rfl (by decide) (s_96 hW g1 ⟨by omega, by omega⟩ ⟨by omega, by omega⟩) (fun R34352 T34353 H34354 p34355 => ?_))
            obtain ⟨e34356, e34358, z34359, e34357, b34360⟩ := p34355
            subst e34356
            subst e34357
            subst e34358
            show wp _ _ 115 41 [(5, vI v34329), (4, vI v34330), (0, .ref r0), (1, .ref r1), (2, vI a2), (3, vI a3)] [vI z34359] _ H _
            refine wp_of e115 c115_41 (rw_goto (p1 := 45) (by decide) ?_)
            refine wp_of e115 c115_45 (rw_istore (pc' := 47) (z := z34359) (L' := [(6, vI z34359), (5, vI v34329), (4, vI v34330), (0, .ref r0), (1, .ref r1), (2, vI a2), (3, vI a3)]) rfl rfl rfl ?_)
            refine wp_of e115 c115_47 (rw_iload (pc' := 49) (z := z34359) rfl rfl ?_)
            refine wp_of e115 c115_49 (rw_if_lt (p1 := 83) (p2 := 52) (by decide) rfl ⟨by omega, by omega⟩ (fun c34361 => ?_) (fun c34361 => ?_))
            · refine wp_of e115 c115_83 (rw_iinc (pc' := 86) (z := v34329) (L' := [(5, vI (v34329 + 1)), (6, vI z34359), (4, vI v34330), (0, .ref r0), (1, .ref r1), (2, vI a2), (3, vI a3)]) rfl rfl rfl rfl ?_)
              refine wp_of e115 c115_86 (rw_goto (p1 := 6) (by decide) ?_)
              exact wp_lc (ks := [5, 6, 4, 0, 1, 2, 3]) (wl_c rfl (wl_c rfl (wl_c rfl (wl_c rfl (wl_c rfl (wl_c rfl wl_n)))))) rfl (by decide) (ih34328 _ (by omega) (v34329 + 1) v34330 ⟨by omega, by omega⟩ ⟨by omega, by omega⟩ rfl)
            · refine wp_of e115 c115_52 (rw_aload_n (pc' := 53) (v := .ref r1) rfl rfl rfl ?_)
              refine wp_of e115 c115_53 (xg_R (pc' := 56) lf_4_78 hW g1 sh_27 (by decide) (by decide) ty_27_0 rfl rfl (fun r34362 q34363 g34364 => ?_))
              refine wp_of e115 c115_56 (rw_iload_n (pc' := 57) (z := a2) rfl rfl ?_)
              refine wp_of e115 c115_57 (xa_R (pc' := 58) (by decide) hW g34364 sh_28 (by decide) (ty_28 _) (by omega) (by omega) rfl (fun r34365 q34366 g34367 => ?_))
              refine wp_of e115 c115_58 (xg_R (pc' := 61) lf_4_138 hW g34367 sh_35 (by decide) (by decide) ty_35_2 rfl rfl (fun r34368 q34369 g34370 => ?_))
              refine wp_of e115 c115_61 (rw_iload (pc' := 63) (z := z34359) rfl rfl ?_)
              refine wp_of e115 c115_63 (xa_I (so := 0) (pc' := 64) hW g34370 sh_38 (by decide) (ty_38 _) (by omega) (by omega) rfl (fun b34371 b34372 => ?_))
              refine wp_of e115 c115_64 (rw_iload_n (pc' := 65) (z := a3) rfl rfl ?_)
              refine wp_of e115 c115_65 (xc_S (pc' := 68) (as := [vI (H r34368 (z34359.toNat)), vI a3]) (st := []) (lm_4_122) rfl rfl (Nat.le_of_ble_eq_true rfl) rfl (by decide) (s_36 hW ⟨by omega, by omega⟩ ⟨by omega, by omega⟩) (fun R34373 T34374 H34375 p34376 => ?_))
              obtain ⟨e34377, e34379, z34380, e34378, b34381⟩ := p34376
              subst e34377
              subst e34378
              subst e34379
              show wp _ _ 115 68 [(6, vI z34359), (5, vI v34329), (4, vI v34330), (0, .ref r0), (1, .ref r1), (2, vI a2), (3, vI a3)] [vI z34380] _ H _
              refine wp_of e115 c115_68 (rw_if_eq (p1 := 83) (p2 := 71) (by decide) rfl ⟨by omega, by omega⟩ (fun c34382 => ?_) (fun c34382 => ?_))
              · refine wp_of e115 c115_83 (rw_iinc (pc' := 86) (z := v34329) (L' := [(5, vI (v34329 + 1)), (6, vI z34359), (4, vI v34330), (0, .ref r0), (1, .ref r1), (2, vI a2), (3, vI a3)]) rfl rfl rfl rfl ?_)
                refine wp_of e115 c115_86 (rw_goto (p1 := 6) (by decide) ?_)
                exact wp_lc (ks := [5, 6, 4, 0, 1, 2, 3]) (wl_c rfl (wl_c rfl (wl_c rfl (wl_c rfl (wl_c rfl (wl_c rfl wl_n)))))) rfl (by decide) (ih34328 _ (by omega) (v34329 + 1) v34330 ⟨by omega, by omega⟩ ⟨by omega, by omega⟩ rfl)
              · refine wp_of e115 c115_71 (rw_iload (pc' := 73) (z := v34330) rfl rfl ?_)
                refine wp_of e115 c115_73 (rw_aload_n (pc' := 74) (v := .ref r1) rfl rfl rfl ?_)
                refine wp_of e115 c115_74 (rw_iload (pc' := 76) (z := v34329) rfl rfl ?_)
                refine wp_of e115 c115_76 (rw_iload_n (pc' := 77) (z := a3) rfl rfl ?_)
                refine wp_of e115 c115_77 (xc_S (pc' := 80) (as := [.ref r1, vI v34329, vI a3]) (st := [vI v34330]) (lm_4_141) rfl rfl (Nat.le_of_ble_eq_true rfl) rfl (by decide) (s_116 hW g1 ⟨by omega, by omega⟩ ⟨by omega, by omega⟩) (fun R34383 T34384 H34385 p34386 => ?_))
                obtain ⟨e34387, e34389, z34390, e34388, b34391⟩ := p34386
                subst e34387
                subst e34388
                subst e34389
                show wp _ _ 115 80 [(6, vI z34359), (5, vI v34329), (4, vI v34330), (0, .ref r0), (1, .ref r1), (2, vI a2), (3, vI a3)] [vI z34390, vI v34330] _ H _
                refine wp_of e115 c115_80 (rw_ior (pc' := 81) rfl ?_)
                obtain ⟨v34392, e34393⟩ : ∃ x : Int, x = wq_or v34330 z34390 := ⟨_, rfl⟩
                rw [← e34393]
                have b34394 : -2147483648 ≤ v34392 ∧ v34392 ≤ 2147483647 := by
                  rw [e34393]
                  exact wI_or _ _
                refine wp_of e115 c115_81 (rw_istore (pc' := 83) (z := v34392) (L' := [(4, vI v34392), (6, vI z34359), (5, vI v34329), (0, .ref r0), (1, .ref r1), (2, vI a2), (3, vI a3)]) rfl rfl rfl ?_)
                refine wp_of e115 c115_83 (rw_iinc (pc' := 86) (z := v34329) (L' := [(5, vI (v34329 + 1)), (4, vI v34392), (6, vI z34359), (0, .ref r0), (1, .ref r1), (2, vI a2), (3, vI a3)]) rfl rfl rfl rfl ?_)
                refine wp_of e115 c115_86 (rw_goto (p1 := 6) (by decide) ?_)
                exact wp_lc (ks := [5, 4, 6, 0, 1, 2, 3]) (wl_c rfl (wl_c rfl (wl_c rfl (wl_c rfl (wl_c rfl (wl_c rfl wl_n)))))) rfl (by decide) (ih34328 _ (by omega) (v34329 + 1) v34392 ⟨by omega, by omega⟩ ⟨by omega, by omega⟩ rfl)
  exact wp_lc (ks := [5, 4, 0, 1, 2, 3]) (wl_c rfl (wl_c rfl (wl_c rfl (wl_c rfl (wl_c rfl (wl_c rfl wl_n)))))) rfl (by decide) (lp34326 _ 0 0 ⟨by omega, by omega⟩ ⟨by omega, by omega⟩ rfl)
/-! StrikeAwake.hiding(II)I -/
theorem e114 : wq_en 114 = some (0, 4, false, some FieldType.int) := rfl
theorem c114_0 : mc_cd 114 0 = some (.aload_n 0, 1) := by decide +kernel
theorem c114_1 : mc_cd 114 1 = some (.aload_n 0, 1) := by decide +kernel
theorem c114_2 : mc_cd 114 2 = some (.iload_n 1, 1) := by decide +kernel
theorem c114_3 : mc_cd 114 3 = some (.invokevirtual 105, 3) := by decide +kernel
theorem c114_6 : mc_cd 114 6 = some (.ifCond .eq 15, 3) := by decide +kernel
theorem c114_9 : mc_cd 114 9 = some (.aload_n 0, 1) := by decide +kernel
theorem c114_10 : mc_cd 114 10 = some (.iload_n 2, 1) := by decide +kernel
theorem c114_11 : mc_cd 114 11 = some (.invokevirtual 132, 3) := by decide +kernel
theorem c114_14 : mc_cd 114 14 = some (.ifCond .eq 7, 3) := by decide +kernel
theorem c114_17 : mc_cd 114 17 = some (.iconst 1, 1) := by decide +kernel
theorem c114_18 : mc_cd 114 18 = some (.goto 4, 3) := by decide +kernel
theorem c114_21 : mc_cd 114 21 = some (.iconst 0, 1) := by decide +kernel
theorem c114_22 : mc_cd 114 22 = some (.invokevirtual 174, 3) := by decide +kernel
theorem c114_25 : mc_cd 114 25 = some (.istore_n 3, 1) := by decide +kernel
theorem c114_26 : mc_cd 114 26 = some (.iload_n 3, 1) := by decide +kernel
theorem c114_27 : mc_cd 114 27 = some (.ifCond .eq 9, 3) := by decide +kernel
theorem c114_30 : mc_cd 114 30 = some (.aload_n 0, 1) := by decide +kernel
theorem c114_31 : mc_cd 114 31 = some (.iload_n 3, 1) := by decide +kernel
theorem c114_32 : mc_cd 114 32 = some (.invokevirtual 70, 3) := by decide +kernel
theorem c114_35 : mc_cd 114 35 = some (.ireturn, 1) := by decide +kernel
theorem c114_36 : mc_cd 114 36 = some (.aload_n 0, 1) := by decide +kernel
theorem c114_37 : mc_cd 114 37 = some (.aload_n 0, 1) := by decide +kernel
theorem c114_38 : mc_cd 114 38 = some (.getfield 30, 3) := by decide +kernel
theorem c114_41 : mc_cd 114 41 = some (.aload_n 0, 1) := by decide +kernel
theorem c114_42 : mc_cd 114 42 = some (.getfield 51, 3) := by decide +kernel
theorem c114_45 : mc_cd 114 45 = some (.iload_n 1, 1) := by decide +kernel
theorem c114_46 : mc_cd 114 46 = some (.iload_n 2, 1) := by decide +kernel
theorem c114_47 : mc_cd 114 47 = some (.invokevirtual 220, 3) := by decide +kernel
theorem c114_50 : mc_cd 114 50 = some (.invokevirtual 99, 3) := by decide +kernel
theorem c114_53 : mc_cd 114 53 = some (.ireturn, 1) := by decide +kernel
abbrev q_114 (r0 : Nat) (a1 : Int) (a2 : Int) (T : wq_T) (H : wq_H) : Option Value → wq_T → wq_H → Prop := fun r T' H' => T = T' ∧ WT T H' ∧ wfr [(12, 5), (12, 6), (12, 7), (12, 8), (12, 9), (1, 10), (6, 5), (8, 999), (10, 999), (15, 999), (9, 999), (18, 999), (19, 999), (7, 999), (11, 999), (17, 999), (13, 999)] T H H' ∧ ∃ z : Int, some (vI z) = r ∧ ((-2147483648) ≤ z ∧ z ≤ 2147483647) ∧ (H' r0 10 ≠ 4)
set_option maxHeartbeats 4000000 in
theorem s_114 {kt : Nat → Option mc_E} {T : wq_T} {H : wq_H} {r0 : Nat} {a1 : Int} {a2 : Int} (hW : WT T H) (g0 : T.2.2.2 r0 = some 1) (i1 : (-2147483648) ≤ a1 ∧ a1 ≤ 2147483647) (i2 : (-2147483648) ≤ a2 ∧ a2 ≤ 2147483647) : wpc kt 6 114 [.ref r0, vI a1, vI a2] T H (q_114 r0 a1 a2 T H) := by
  refine wp_enter e114 (Nat.le_of_ble_eq_true rfl) rfl ?_
  have f0 : wfr [(12, 5), (12, 6), (12, 7), (12, 8), (12, 9), (1, 10), (6, 5), (8, 999), (10, 999), (15, 999), (9, 999), (18, 999), (19, 999), (7, 999), (11, 999), (17, 999), (13, 999)] T H H := wfr.rf
  show wp _ _ 114 0 [(0, .ref r0), (1, vI a1), (2, vI a2)] [] _ H _
  refine wp_of e114 c114_0 (rw_aload_n (pc' := 1) (v := .ref r0) rfl rfl rfl ?_)
  refine wp_of e114 c114_1 (rw_aload_n (pc' := 2) (v := .ref r0) rfl rfl rfl ?_)
  refine wp_of e114 c114_2 (rw_iload_n (pc' := 3) (z := a1) rfl rfl ?_)
  refine wp_of e114 c114_3 (xc_V (pc' := 6) (r := r0) (as := [vI a1]) (st := [.ref r0]) (lm_0_105) rfl rfl (Nat.le_of_ble_eq_true rfl) hW g0 sh_1 (by decide) rfl (by decide) (s_55 hW g0 ⟨by omega, by omega⟩) (fun R34522 T34523 H34524 p34525 => ?_))
  obtain ⟨e34526, e34528, z34530, e34527, b34531, p34529⟩ := p34525
  subst e34526
  subst e34527
  subst e34528
  show wp _ _ 114 6 [(0, .ref r0), (1, vI a1), (2, vI a2)] [vI z34530, .ref r0] _ H _
  refine wp_of e114 c114_6 (rw_if_eq (p1 := 21) (p2 := 9) (by decide) rfl ⟨by omega, by omega⟩ (fun c34532 => ?_) (fun c34532 => ?_))
  · refine wp_of e114 c114_21 (rw_iconst (pc' := 22) rfl ?_)
    refine wp_of e114 c114_22 (xc_V (pc' := 25) (r := r0) (as := [vI 0]) (st := []) (lm_0_174) rfl rfl (Nat.le_of_ble_eq_true rfl) hW g0 sh_1 (by decide) rfl (by decide) (s_83 hW g0 ⟨by omega, by omega⟩) (fun R34533 T34534 H34535 p34536 => ?_))
    obtain ⟨e34537, w34539, f34540, z34543, e34538, b34544, p34541, p34542⟩ := p34536
    subst e34537
    subst e34538
    have f34545 := f0.tr f34540 rfl
    show wp _ _ 114 25 [(0, .ref r0), (1, vI a1), (2, vI a2)] [vI z34543] _ H34535 _
    refine wp_of e114 c114_25 (rw_istore_n (pc' := 26) (z := z34543) (L' := [(3, vI z34543), (0, .ref r0), (1, vI a1), (2, vI a2)]) rfl rfl rfl ?_)
    refine wp_of e114 c114_26 (rw_iload_n (pc' := 27) (z := z34543) rfl rfl ?_)
    refine wp_of e114 c114_27 (rw_if_eq (p1 := 36) (p2 := 30) (by decide) rfl ⟨by omega, by omega⟩ (fun c34546 => ?_) (fun c34546 => ?_))
    · exfalso
      omega
    · refine wp_of e114 c114_30 (rw_aload_n (pc' := 31) (v := .ref r0) rfl rfl rfl ?_)
      refine wp_of e114 c114_31 (rw_iload_n (pc' := 32) (z := z34543) rfl rfl ?_)
      refine wp_of e114 c114_32 (xc_V (pc' := 35) (r := r0) (as := [vI z34543]) (st := []) (lm_0_70) rfl rfl (Nat.le_of_ble_eq_true rfl) w34539 g0 sh_1 (by decide) rfl (by decide) (s_12 w34539 g0 ⟨by omega, by omega⟩) (fun R34547 T34548 H34549 p34550 => ?_))
      obtain ⟨e34551, w34553, f34554, z34556, e34552, b34557, p34555⟩ := p34550
      subst e34551
      subst e34552
      have f34558 := f34545.tr f34554 rfl
      show wp _ _ 114 35 [(3, vI z34543), (0, .ref r0), (1, vI a1), (2, vI a2)] [vI z34556] _ H34549 _
      exact wp_ireturn e114 c114_35 rfl ⟨rfl, w34553, f34558, z34556, rfl, ⟨by omega, by omega⟩, by omega⟩
  · refine wp_of e114 c114_9 (rw_aload_n (pc' := 10) (v := .ref r0) rfl rfl rfl ?_)
    refine wp_of e114 c114_10 (rw_iload_n (pc' := 11) (z := a2) rfl rfl ?_)
    refine wp_of e114 c114_11 (xc_V (pc' := 14) (r := r0) (as := [vI a2]) (st := [.ref r0]) (lm_0_132) rfl rfl (Nat.le_of_ble_eq_true rfl) hW g0 sh_1 (by decide) rfl (by decide) (s_60 hW g0 ⟨by omega, by omega⟩) (fun R34559 T34560 H34561 p34562 => ?_))
    obtain ⟨e34563, e34565, z34567, e34564, b34568, p34566⟩ := p34562
    subst e34563
    subst e34564
    subst e34565
    show wp _ _ 114 14 [(0, .ref r0), (1, vI a1), (2, vI a2)] [vI z34567, .ref r0] _ H _
    refine wp_of e114 c114_14 (rw_if_eq (p1 := 21) (p2 := 17) (by decide) rfl ⟨by omega, by omega⟩ (fun c34569 => ?_) (fun c34569 => ?_))
    · refine wp_of e114 c114_21 (rw_iconst (pc' := 22) rfl ?_)
      refine wp_of e114 c114_22 (xc_V (pc' := 25) (r := r0) (as := [vI 0]) (st := []) (lm_0_174) rfl rfl (Nat.le_of_ble_eq_true rfl) hW g0 sh_1 (by decide) rfl (by decide) (s_83 hW g0 ⟨by omega, by omega⟩) (fun R34570 T34571 H34572 p34573 => ?_))
      obtain ⟨e34574, w34576, f34577, z34580, e34575, b34581, p34578, p34579⟩ := p34573
      subst e34574
      subst e34575
      have f34582 := f0.tr f34577 rfl
      show wp _ _ 114 25 [(0, .ref r0), (1, vI a1), (2, vI a2)] [vI z34580] _ H34572 _
      refine wp_of e114 c114_25 (rw_istore_n (pc' := 26) (z := z34580) (L' := [(3, vI z34580), (0, .ref r0), (1, vI a1), (2, vI a2)]) rfl rfl rfl ?_)
      refine wp_of e114 c114_26 (rw_iload_n (pc' := 27) (z := z34580) rfl rfl ?_)
      refine wp_of e114 c114_27 (rw_if_eq (p1 := 36) (p2 := 30) (by decide) rfl ⟨by omega, by omega⟩ (fun c34583 => ?_) (fun c34583 => ?_))
      · exfalso
        omega
      · refine wp_of e114 c114_30 (rw_aload_n (pc' := 31) (v := .ref r0) rfl rfl rfl ?_)
        refine wp_of e114 c114_31 (rw_iload_n (pc' := 32) (z := z34580) rfl rfl ?_)
        refine wp_of e114 c114_32 (xc_V (pc' := 35) (r := r0) (as := [vI z34580]) (st := []) (lm_0_70) rfl rfl (Nat.le_of_ble_eq_true rfl) w34576 g0 sh_1 (by decide) rfl (by decide) (s_12 w34576 g0 ⟨by omega, by omega⟩) (fun R34584 T34585 H34586 p34587 => ?_))
        obtain ⟨e34588, w34590, f34591, z34593, e34589, b34594, p34592⟩ := p34587
        subst e34588
        subst e34589
        have f34595 := f34582.tr f34591 rfl
        show wp _ _ 114 35 [(3, vI z34580), (0, .ref r0), (1, vI a1), (2, vI a2)] [vI z34593] _ H34586 _
        exact wp_ireturn e114 c114_35 rfl ⟨rfl, w34590, f34595, z34593, rfl, ⟨by omega, by omega⟩, by omega⟩
    · refine wp_of e114 c114_17 (rw_iconst (pc' := 18) rfl ?_)
      refine wp_of e114 c114_18 (rw_goto (p1 := 22) (by decide) ?_)
      refine wp_of e114 c114_22 (xc_V (pc' := 25) (r := r0) (as := [vI 1]) (st := []) (lm_0_174) rfl rfl (Nat.le_of_ble_eq_true rfl) hW g0 sh_1 (by decide) rfl (by decide) (s_83 hW g0 ⟨by omega, by omega⟩) (fun R34596 T34597 H34598 p34599 => ?_))
      obtain ⟨e34600, w34602, f34603, z34606, e34601, b34607, p34604, p34605⟩ := p34599
      subst e34600
      subst e34601
      have f34608 := f0.tr f34603 rfl
      show wp _ _ 114 25 [(0, .ref r0), (1, vI a1), (2, vI a2)] [vI z34606] _ H34598 _
      refine wp_of e114 c114_25 (rw_istore_n (pc' := 26) (z := z34606) (L' := [(3, vI z34606), (0, .ref r0), (1, vI a1), (2, vI a2)]) rfl rfl rfl ?_)
      refine wp_of e114 c114_26 (rw_iload_n (pc' := 27) (z := z34606) rfl rfl ?_)
      refine wp_of e114 c114_27 (rw_if_eq (p1 := 36) (p2 := 30) (by decide) rfl ⟨by omega, by omega⟩ (fun c34609 => ?_) (fun c34609 => ?_))
      · refine wp_of e114 c114_36 (rw_aload_n (pc' := 37) (v := .ref r0) rfl rfl rfl ?_)
        refine wp_of e114 c114_37 (rw_aload_n (pc' := 38) (v := .ref r0) rfl rfl rfl ?_)
        refine wp_of e114 c114_38 (xg_R (pc' := 41) lf_0_30 w34602 g0 sh_1 (by decide) (by decide) ty_1_3 rfl rfl (fun r34610 q34611 g34612 => ?_))
        refine wp_of e114 c114_41 (rw_aload_n (pc' := 42) (v := .ref r0) rfl rfl rfl ?_)
        refine wp_of e114 c114_42 (xg_R (pc' := 45) lf_0_51 w34602 g0 sh_1 (by decide) (by decide) ty_1_6 rfl rfl (fun r34613 q34614 g34615 => ?_))
        refine wp_of e114 c114_45 (rw_iload_n (pc' := 46) (z := a1) rfl rfl ?_)
        refine wp_of e114 c114_46 (rw_iload_n (pc' := 47) (z := a2) rfl rfl ?_)
        refine wp_of e114 c114_47 (xc_V (pc' := 50) (r := r34610) (as := [.ref r34613, vI a1, vI a2]) (st := [.ref r0]) (lm_0_220) rfl rfl (Nat.le_of_ble_eq_true rfl) w34602 g34612 sh_12 (by decide) rfl (by decide) (s_115 w34602 g34612 g34615 ⟨by omega, by omega⟩ ⟨by omega, by omega⟩) (fun R34616 T34617 H34618 p34619 => ?_))
        obtain ⟨e34620, e34622, z34623, e34621, b34624⟩ := p34619
        subst e34620
        subst e34621
        subst e34622
        show wp _ _ 114 50 [(3, vI z34606), (0, .ref r0), (1, vI a1), (2, vI a2)] [vI z34623, .ref r0] _ H34598 _
        refine wp_of e114 c114_50 (xc_V (pc' := 53) (r := r0) (as := [vI z34623]) (st := []) (lm_0_99) rfl rfl (Nat.le_of_ble_eq_true rfl) w34602 g0 sh_1 (by decide) rfl (by decide) (s_51 w34602 g0 ⟨by omega, by omega⟩) (fun R34625 T34626 H34627 p34628 => ?_))
        obtain ⟨e34629, w34631, f34632, z34634, e34630, b34635, p34633⟩ := p34628
        subst e34629
        subst e34630
        have f34636 := f34608.tr f34632 rfl
        show wp _ _ 114 53 [(3, vI z34606), (0, .ref r0), (1, vI a1), (2, vI a2)] [vI z34634] _ H34627 _
        exact wp_ireturn e114 c114_53 rfl ⟨rfl, w34631, f34636, z34634, rfl, ⟨by omega, by omega⟩, by omega⟩
      · refine wp_of e114 c114_30 (rw_aload_n (pc' := 31) (v := .ref r0) rfl rfl rfl ?_)
        refine wp_of e114 c114_31 (rw_iload_n (pc' := 32) (z := z34606) rfl rfl ?_)
        refine wp_of e114 c114_32 (xc_V (pc' := 35) (r := r0) (as := [vI z34606]) (st := []) (lm_0_70) rfl rfl (Nat.le_of_ble_eq_true rfl) w34602 g0 sh_1 (by decide) rfl (by decide) (s_12 w34602 g0 ⟨by omega, by omega⟩) (fun R34637 T34638 H34639 p34640 => ?_))
        obtain ⟨e34641, w34643, f34644, z34646, e34642, b34647, p34645⟩ := p34640
        subst e34641
        subst e34642
        have f34648 := f34608.tr f34644 rfl
        show wp _ _ 114 35 [(3, vI z34606), (0, .ref r0), (1, vI a1), (2, vI a2)] [vI z34646] _ H34639 _
        exact wp_ireturn e114 c114_35 rfl ⟨rfl, w34643, f34648, z34646, rfl, ⟨by omega, by omega⟩, by omega⟩
/-! StrikeAwake$Census.outermost([IIZ)I -/
theorem e118 : wq_en 118 = some (4, 6, false, some FieldType.int) := rfl
theorem c118_0 : mc_cd 118 0 = some (.iconst (-1), 1) := by decide +kernel
theorem c118_1 : mc_cd 118 1 = some (.istore 4, 2) := by decide +kernel
theorem c118_3 : mc_cd 118 3 = some (.iconst 0, 1) := by decide +kernel
theorem c118_4 : mc_cd 118 4 = some (.istore 5, 2) := by decide +kernel
theorem c118_6 : mc_cd 118 6 = some (.iload 5, 2) := by decide +kernel
theorem c118_8 : mc_cd 118 8 = some (.bipush 40, 2) := by decide +kernel
theorem c118_10 : mc_cd 118 10 = some (.if_icmp .ge 64, 3) := by decide +kernel
theorem c118_13 : mc_cd 118 13 = some (.iload 5, 2) := by decide +kernel
theorem c118_15 : mc_cd 118 15 = some (.aload_n 1, 1) := by decide +kernel
theorem c118_16 : mc_cd 118 16 = some (.arraylength, 1) := by decide +kernel
theorem c118_17 : mc_cd 118 17 = some (.if_icmp .ge 57, 3) := by decide +kernel
theorem c118_20 : mc_cd 118 20 = some (.aload_n 0, 1) := by decide +kernel
theorem c118_21 : mc_cd 118 21 = some (.getfield 17, 3) := by decide +kernel
theorem c118_24 : mc_cd 118 24 = some (.iload_n 2, 1) := by decide +kernel
theorem c118_25 : mc_cd 118 25 = some (.aaload, 1) := by decide +kernel
theorem c118_26 : mc_cd 118 26 = some (.iload 5, 2) := by decide +kernel
theorem c118_28 : mc_cd 118 28 = some (.iaload, 1) := by decide +kernel
theorem c118_29 : mc_cd 118 29 = some (.ifCond .le 39, 3) := by decide +kernel
theorem c118_32 : mc_cd 118 32 = some (.iload 4, 2) := by decide +kernel
theorem c118_34 : mc_cd 118 34 = some (.ifCond .lt 28, 3) := by decide +kernel
theorem c118_37 : mc_cd 118 37 = some (.iload_n 3, 1) := by decide +kernel
theorem c118_38 : mc_cd 118 38 = some (.ifCond .eq 15, 3) := by decide +kernel
theorem c118_41 : mc_cd 118 41 = some (.aload_n 1, 1) := by decide +kernel
theorem c118_42 : mc_cd 118 42 = some (.iload 5, 2) := by decide +kernel
theorem c118_44 : mc_cd 118 44 = some (.iaload, 1) := by decide +kernel
theorem c118_45 : mc_cd 118 45 = some (.iload 4, 2) := by decide +kernel
theorem c118_47 : mc_cd 118 47 = some (.if_icmp .le 21, 3) := by decide +kernel
theorem c118_50 : mc_cd 118 50 = some (.goto 12, 3) := by decide +kernel
theorem c118_53 : mc_cd 118 53 = some (.aload_n 1, 1) := by decide +kernel
theorem c118_54 : mc_cd 118 54 = some (.iload 5, 2) := by decide +kernel
theorem c118_56 : mc_cd 118 56 = some (.iaload, 1) := by decide +kernel
theorem c118_57 : mc_cd 118 57 = some (.iload 4, 2) := by decide +kernel
theorem c118_59 : mc_cd 118 59 = some (.if_icmp .ge 9, 3) := by decide +kernel
theorem c118_62 : mc_cd 118 62 = some (.aload_n 1, 1) := by decide +kernel
theorem c118_63 : mc_cd 118 63 = some (.iload 5, 2) := by decide +kernel
theorem c118_65 : mc_cd 118 65 = some (.iaload, 1) := by decide +kernel
theorem c118_66 : mc_cd 118 66 = some (.istore 4, 2) := by decide +kernel
theorem c118_68 : mc_cd 118 68 = some (.iinc 5 1, 3) := by decide +kernel
theorem c118_71 : mc_cd 118 71 = some (.goto (-65), 3) := by decide +kernel
theorem c118_74 : mc_cd 118 74 = some (.iload 4, 2) := by decide +kernel
theorem c118_76 : mc_cd 118 76 = some (.ireturn, 1) := by decide +kernel
abbrev q_118_b (r0 : Nat) (r1 : Nat) (a2 : Int) (a3 : Int) (T : wq_T) (H : wq_H) : Option Value → wq_T → wq_H → Prop := fun r T' H' => T = T' ∧ H = H' ∧ ∃ z : Int, some (vI z) = r ∧ ((-2147483648) ≤ z ∧ z ≤ 2147483647)
set_option maxHeartbeats 4000000 in
theorem s_118_b {kt : Nat → Option mc_E} {T : wq_T} {H : wq_H} {r0 : Nat} {r1 : Nat} {a2 : Int} {a3 : Int} (hW : WT T H) (g0 : T.2.2.2 r0 = some 12) (g1 : T.2.2.2 r1 = some 36) (i2 : 0 ≤ a2 ∧ a2 ≤ 5) (i3 : 0 ≤ a3 ∧ a3 ≤ 1) : wpc kt 1 118 [.ref r0, .ref r1, vI a2, vI a3] T H (q_118_b r0 r1 a2 a3 T H) := by
  refine wp_enter e118 (Nat.le_of_ble_eq_true rfl) rfl ?_
  show wp _ _ 118 0 [(0, .ref r0), (1, .ref r1), (2, vI a2), (3, vI a3)] [] _ H _
  refine wp_of e118 c118_0 (rw_iconst (pc' := 1) rfl ?_)
  refine wp_of e118 c118_1 (rw_istore (pc' := 3) (z := -1) (L' := [(4, vI (-1)), (0, .ref r0), (1, .ref r1), (2, vI a2), (3, vI a3)]) rfl rfl rfl ?_)
  refine wp_of e118 c118_3 (rw_iconst (pc' := 4) rfl ?_)
  refine wp_of e118 c118_4 (rw_istore (pc' := 6) (z := 0) (L' := [(5, vI 0), (4, vI (-1)), (0, .ref r0), (1, .ref r1), (2, vI a2), (3, vI a3)]) rfl rfl rfl ?_)
  have lp35053 : ∀ (n35054 : Nat) (v35056 : Int) (v35057 : Int), (0 ≤ v35056 ∧ v35056 ≤ 40) → ((-1) ≤ v35057 ∧ v35057 ≤ 24) → (40 - v35056).toNat = n35054 → wp kt 0 118 6 [(5, vI v35056), (4, vI v35057), (0, .ref r0), (1, .ref r1), (2, vI a2), (3, vI a3)] [] T H (q_118_b r0 r1 a2 a3 T H) := by
    intro n35054
    induction n35054 using Nat.strongRecOn with
    | _ n35054 ih35055 =>
      intro v35056 v35057 b35060 b35061 m35062
      refine wp_of e118 c118_6 (rw_iload (pc' := 8) (z := v35056) rfl rfl ?_)
      refine wp_of e118 c118_8 (rw_bipush (pc' := 10) (z := 40) rfl (by decide) ?_)
      refine wp_of e118 c118_10 (rw_icmp_ge (p1 := 74) (p2 := 13) (by decide) rfl ⟨by omega, by omega⟩ ⟨by omega, by omega⟩ (fun c35063 => ?_) (fun c35063 => ?_))
      · refine wp_of e118 c118_74 (rw_iload (pc' := 76) (z := v35057) rfl rfl ?_)
        exact wp_ireturn e118 c118_76 rfl ⟨rfl, rfl, v35057, rfl, ⟨by omega, by omega⟩⟩
      · refine wp_of e118 c118_13 (rw_iload (pc' := 15) (z := v35056) rfl rfl ?_)
        refine wp_of e118 c118_15 (rw_aload_n (pc' := 16) (v := .ref r1) rfl rfl rfl ?_)
        refine wp_of e118 c118_16 (xa_N (pc' := 17) (n := 40) hW g1 sh_36 (by decide) rfl ?_)
        refine wp_of e118 c118_17 (rw_icmp_ge (p1 := 74) (p2 := 20) (by decide) rfl ⟨by omega, by omega⟩ ⟨by omega, by omega⟩ (fun c35064 => ?_) (fun c35064 => ?_))
        · exfalso
          omega
        · refine wp_of e118 c118_20 (rw_aload_n (pc' := 21) (v := .ref r0) rfl rfl rfl ?_)
          refine wp_of e118 c118_21 (xg_R (pc' := 24) lf_4_17 hW g0 sh_12 (by decide) (by decide) ty_12_1 rfl rfl (fun r35065 q35066 g35067 => ?_))
          refine wp_of e118 c118_24 (rw_iload_n (pc' := 25) (z := a2) rfl rfl ?_)
          refine wp_of e118 c118_25 (xa_R (pc' := 26) (by decide) hW g35067 sh_14 (by decide) (ty_14 _) (by omega) (by omega) rfl (fun r35068 q35069 g35070 => ?_))
          refine wp_of e118 c118_26 (rw_iload (pc' := 28) (z := v35056) rfl rfl ?_)
          refine wp_of e118 c118_28 (xa_I (so := 0) (pc' := 29) hW g35070 sh_15 (by decide) (ty_15 _) (by omega) (by omega) rfl (fun b35071 b35072 => ?_))
          refine wp_of e118 c118_29 (rw_if_le (p1 := 68) (p2 := 32) (by decide) rfl ⟨by omega, by omega⟩ (fun c35073 => ?_) (fun c35073 => ?_))
          · refine wp_of e118 c118_68 (rw_iinc (pc' := 71) (z := v35056) (L' := [(5, vI (v35056 + 1)), (4, vI v35057), (0, .ref r0), (1, .ref r1), (2, vI a2), (3, vI a3)]) rfl rfl rfl rfl ?_)
            refine wp_of e118 c118_71 (rw_goto (p1 := 6) (by decide) ?_)
            exact wp_lc (ks := [5, 4, 0, 1, 2, 3]) (wl_c rfl (wl_c rfl (wl_c rfl (wl_c rfl (wl_c rfl (wl_c rfl wl_n)))))) rfl (by decide) (ih35055 _ (by omega) (v35056 + 1) v35057 ⟨by omega, by omega⟩ ⟨by omega, by omega⟩ rfl)
          · refine wp_of e118 c118_32 (rw_iload (pc' := 34) (z := v35057) rfl rfl ?_)
            refine wp_of e118 c118_34 (rw_if_lt (p1 := 62) (p2 := 37) (by decide) rfl ⟨by omega, by omega⟩ (fun c35074 => ?_) (fun c35074 => ?_))
            · refine wp_of e118 c118_62 (rw_aload_n (pc' := 63) (v := .ref r1) rfl rfl rfl ?_)
              refine wp_of e118 c118_63 (rw_iload (pc' := 65) (z := v35056) rfl rfl ?_)
              refine wp_of e118 c118_65 (xa_I (so := 0) (pc' := 66) hW g1 sh_36 (by decide) (ty_36 _) (by omega) (by omega) rfl (fun b35075 b35076 => ?_))
              refine wp_of e118 c118_66 (rw_istore (pc' := 68) (z := H r1 (v35056.toNat)) (L' := [(4, vI (H r1 (v35056.toNat))), (5, vI v35056), (0, .ref r0), (1, .ref r1), (2, vI a2), (3, vI a3)]) rfl rfl rfl ?_)
              refine wp_of e118 c118_68 (rw_iinc (pc' := 71) (z := v35056) (L' := [(5, vI (v35056 + 1)), (4, vI (H r1 (v35056.toNat))), (0, .ref r0), (1, .ref r1), (2, vI a2), (3, vI a3)]) rfl rfl rfl rfl ?_)
              refine wp_of e118 c118_71 (rw_goto (p1 := 6) (by decide) ?_)
              exact wp_lc (ks := [5, 4, 0, 1, 2, 3]) (wl_c rfl (wl_c rfl (wl_c rfl (wl_c rfl (wl_c rfl (wl_c rfl wl_n)))))) rfl (by decide) (ih35055 _ (by omega) (v35056 + 1) (H r1 (v35056.toNat)) ⟨by omega, by omega⟩ ⟨by omega, by omega⟩ rfl)
            · refine wp_of e118 c118_37 (rw_iload_n (pc' := 38) (z := a3) rfl rfl ?_)
              refine wp_of e118 c118_38 (rw_if_eq (p1 := 53) (p2 := 41) (by decide) rfl ⟨by omega, by omega⟩ (fun c35077 => ?_) (fun c35077 => ?_))
              · refine wp_of e118 c118_53 (rw_aload_n (pc' := 54) (v := .ref r1) rfl rfl rfl ?_)
                refine wp_of e118 c118_54 (rw_iload (pc' := 56) (z := v35056) rfl rfl ?_)
                refine wp_of e118 c118_56 (xa_I (so := 0) (pc' := 57) hW g1 sh_36 (by decide) (ty_36 _) (by omega) (by omega) rfl (fun b35078 b35079 => ?_))
                refine wp_of e118 c118_57 (rw_iload (pc' := 59) (z := v35057) rfl rfl ?_)
                refine wp_of e118 c118_59 (rw_icmp_ge (p1 := 68) (p2 := 62) (by decide) rfl ⟨by omega, by omega⟩ ⟨by omega, by omega⟩ (fun c35080 => ?_) (fun c35080 => ?_))
                · refine wp_of e118 c118_68 (rw_iinc (pc' := 71) (z := v35056) (L' := [(5, vI (v35056 + 1)), (4, vI v35057), (0, .ref r0), (1, .ref r1), (2, vI a2), (3, vI a3)]) rfl rfl rfl rfl ?_)
                  refine wp_of e118 c118_71 (rw_goto (p1 := 6) (by decide) ?_)
                  exact wp_lc (ks := [5, 4, 0, 1, 2, 3]) (wl_c rfl (wl_c rfl (wl_c rfl (wl_c rfl (wl_c rfl (wl_c rfl wl_n)))))) rfl (by decide) (ih35055 _ (by omega) (v35056 + 1) v35057 ⟨by omega, by omega⟩ ⟨by omega, by omega⟩ rfl)
                · refine wp_of e118 c118_62 (rw_aload_n (pc' := 63) (v := .ref r1) rfl rfl rfl ?_)
                  refine wp_of e118 c118_63 (rw_iload (pc' := 65) (z := v35056) rfl rfl ?_)
                  refine wp_of e118 c118_65 (xa_I (so := 0) (pc' := 66) hW g1 sh_36 (by decide) (ty_36 _) (by omega) (by omega) rfl (fun b35081 b35082 => ?_))
                  refine wp_of e118 c118_66 (rw_istore (pc' := 68) (z := H r1 (v35056.toNat)) (L' := [(4, vI (H r1 (v35056.toNat))), (5, vI v35056), (0, .ref r0), (1, .ref r1), (2, vI a2), (3, vI a3)]) rfl rfl rfl ?_)
                  refine wp_of e118 c118_68 (rw_iinc (pc' := 71) (z := v35056) (L' := [(5, vI (v35056 + 1)), (4, vI (H r1 (v35056.toNat))), (0, .ref r0), (1, .ref r1), (2, vI a2), (3, vI a3)]) rfl rfl rfl rfl ?_)
                  refine wp_of e118 c118_71 (rw_goto (p1 := 6) (by decide) ?_)
                  exact wp_lc (ks := [5, 4, 0, 1, 2, 3]) (wl_c rfl (wl_c rfl (wl_c rfl (wl_c rfl (wl_c rfl (wl_c rfl wl_n)))))) rfl (by decide) (ih35055 _ (by omega) (v35056 + 1) (H r1 (v35056.toNat)) ⟨by omega, by omega⟩ ⟨by omega, by omega⟩ rfl)
              · refine wp_of e118 c118_41 (rw_aload_n (pc' := 42) (v := .ref r1) rfl rfl rfl ?_)
                refine wp_of e118 c118_42 (rw_iload (pc' := 44) (z := v35056) rfl rfl ?_)
                refine wp_of e118 c118_44 (xa_I (so := 0) (pc' := 45) hW g1 sh_36 (by decide) (ty_36 _) (by omega) (by omega) rfl (fun b35083 b35084 => ?_))
                refine wp_of e118 c118_45 (rw_iload (pc' := 47) (z := v35057) rfl rfl ?_)
                refine wp_of e118 c118_47 (rw_icmp_le (p1 := 68) (p2 := 50) (by decide) rfl ⟨by omega, by omega⟩ ⟨by omega, by omega⟩ (fun c35085 => ?_) (fun c35085 => ?_))
                · refine wp_of e118 c118_68 (rw_iinc (pc' := 71) (z := v35056) (L' := [(5, vI (v35056 + 1)), (4, vI v35057), (0, .ref r0), (1, .ref r1), (2, vI a2), (3, vI a3)]) rfl rfl rfl rfl ?_)
                  refine wp_of e118 c118_71 (rw_goto (p1 := 6) (by decide) ?_)
                  exact wp_lc (ks := [5, 4, 0, 1, 2, 3]) (wl_c rfl (wl_c rfl (wl_c rfl (wl_c rfl (wl_c rfl (wl_c rfl wl_n)))))) rfl (by decide) (ih35055 _ (by omega) (v35056 + 1) v35057 ⟨by omega, by omega⟩ ⟨by omega, by omega⟩ rfl)
                · refine wp_of e118 c118_50 (rw_goto (p1 := 62) (by decide) ?_)
                  refine wp_of e118 c118_62 (rw_aload_n (pc' := 63) (v := .ref r1) rfl rfl rfl ?_)
                  refine wp_of e118 c118_63 (rw_iload (pc' := 65) (z := v35056) rfl rfl ?_)
                  refine wp_of e118 c118_65 (xa_I (so := 0) (pc' := 66) hW g1 sh_36 (by decide) (ty_36 _) (by omega) (by omega) rfl (fun b35086 b35087 => ?_))
                  refine wp_of e118 c118_66 (rw_istore (pc' := 68) (z := H r1 (v35056.toNat)) (L' := [(4, vI (H r1 (v35056.toNat))), (5, vI v35056), (0, .ref r0), (1, .ref r1), (2, vI a2), (3, vI a3)]) rfl rfl rfl ?_)
                  refine wp_of e118 c118_68 (rw_iinc (pc' := 71) (z := v35056) (L' := [(5, vI (v35056 + 1)), (4, vI (H r1 (v35056.toNat))), (0, .ref r0), (1, .ref r1), (2, vI a2), (3, vI a3)]) rfl rfl rfl rfl ?_)
                  refine wp_of e118 c118_71 (rw_goto (p1 := 6) (by decide) ?_)
                  exact wp_lc (ks := [5, 4, 0, 1, 2, 3]) (wl_c rfl (wl_c rfl (wl_c rfl (wl_c rfl (wl_c rfl (wl_c rfl wl_n)))))) rfl (by decide) (ih35055 _ (by omega) (v35056 + 1) (H r1 (v35056.toNat)) ⟨by omega, by omega⟩ ⟨by omega, by omega⟩ rfl)
  exact wp_lc (ks := [5, 4, 0, 1, 2, 3]) (wl_c rfl (wl_c rfl (wl_c rfl (wl_c rfl (wl_c rfl (wl_c rfl wl_n)))))) rfl (by decide) (lp35053 _ 0 (-1) ⟨by omega, by omega⟩ ⟨by omega, by omega⟩ rfl)

/-! StrikeAwake$Census.outermost([IIZ)I -/
abbrev q_118_s (r0 : Nat) (r1 : Nat) (a2 : Int) (a3 : Int) (T : wq_T) (H : wq_H) : Option Value → wq_T → wq_H → Prop := fun r T' H' => T = T' ∧ H = H' ∧ ∃ z : Int, some (vI z) = r ∧ ((-2147483648) ≤ z ∧ z ≤ 2147483647)
set_option maxHeartbeats 4000000 in
theorem s_118_s {kt : Nat → Option mc_E} {T : wq_T} {H : wq_H} {r0 : Nat} {r1 : Nat} {a2 : Int} {a3 : Int} (hW : WT T H) (g0 : T.2.2.2 r0 = some 12) (g1 : T.2.2.2 r1 = some 37) (i2 : 0 ≤ a2 ∧ a2 ≤ 5) (i3 : 0 ≤ a3 ∧ a3 ≤ 1) : wpc kt 1 118 [.ref r0, .ref r1, vI a2, vI a3] T H (q_118_s r0 r1 a2 a3 T H) := by
  refine wp_enter e118 (Nat.le_of_ble_eq_true rfl) rfl ?_
  show wp _ _ 118 0 [(0, .ref r0), (1, .ref r1), (2, vI a2), (3, vI a3)] [] _ H _
  refine wp_of e118 c118_0 (rw_iconst (pc' := 1) rfl ?_)
  refine wp_of e118 c118_1 (rw_istore (pc' := 3) (z := -1) (L' := [(4, vI (-1)), (0, .ref r0), (1, .ref r1), (2, vI a2), (3, vI a3)]) rfl rfl rfl ?_)
  refine wp_of e118 c118_3 (rw_iconst (pc' := 4) rfl ?_)
  refine wp_of e118 c118_4 (rw_istore (pc' := 6) (z := 0) (L' := [(5, vI 0), (4, vI (-1)), (0, .ref r0), (1, .ref r1), (2, vI a2), (3, vI a3)]) rfl rfl rfl ?_)
  have lp35492 : ∀ (n35493 : Nat) (v35495 : Int) (v35496 : Int), (0 ≤ v35495 ∧ v35495 ≤ 40) → ((-1) ≤ v35496 ∧ v35496 ≤ 24) → (40 - v35495).toNat = n35493 → wp kt 0 118 6 [(5, vI v35495), (4, vI v35496), (0, .ref r0), (1, .ref r1), (2, vI a2), (3, vI a3)] [] T H (q_118_s r0 r1 a2 a3 T H) := by
    intro n35493
    induction n35493 using Nat.strongRecOn with
    | _ n35493 ih35494 =>
      intro v35495 v35496 b35499 b35500 m35501
      refine wp_of e118 c118_6 (rw_iload (pc' := 8) (z := v35495) rfl rfl ?_)
      refine wp_of e118 c118_8 (rw_bipush (pc' := 10) (z := 40) rfl (by decide) ?_)
      refine wp_of e118 c118_10 (rw_icmp_ge (p1 := 74) (p2 := 13) (by decide) rfl ⟨by omega, by omega⟩ ⟨by omega, by omega⟩ (fun c35502 => ?_) (fun c35502 => ?_))
      · refine wp_of e118 c118_74 (rw_iload (pc' := 76) (z := v35496) rfl rfl ?_)
        exact wp_ireturn e118 c118_76 rfl ⟨rfl, rfl, v35496, rfl, ⟨by omega, by omega⟩⟩
      · refine wp_of e118 c118_13 (rw_iload (pc' := 15) (z := v35495) rfl rfl ?_)
        refine wp_of e118 c118_15 (rw_aload_n (pc' := 16) (v := .ref r1) rfl rfl rfl ?_)
        refine wp_of e118 c118_16 (xa_N (pc' := 17) (n := 40) hW g1 sh_37 (by decide) rfl ?_)
        refine wp_of e118 c118_17 (rw_icmp_ge (p1 := 74) (p2 := 20) (by decide) rfl ⟨by omega, by omega⟩ ⟨by omega, by omega⟩ (fun c35503 => ?_) (fun c35503 => ?_))
        · exfalso
          omega
        · refine wp_of e118 c118_20 (rw_aload_n (pc' := 21) (v := .ref r0) rfl rfl rfl ?_)
          refine wp_of e118 c118_21 (xg_R (pc' := 24) lf_4_17 hW g0 sh_12 (by decide) (by decide) ty_12_1 rfl rfl (fun r35504 q35505 g35506 => ?_))
          refine wp_of e118 c118_24 (rw_iload_n (pc' := 25) (z := a2) rfl rfl ?_)
          refine wp_of e118 c118_25 (xa_R (pc' := 26) (by decide) hW g35506 sh_14 (by decide) (ty_14 _) (by omega) (by omega) rfl (fun r35507 q35508 g35509 => ?_))
          refine wp_of e118 c118_26 (rw_iload (pc' := 28) (z := v35495) rfl rfl ?_)
          refine wp_of e118 c118_28 (xa_I (so := 0) (pc' := 29) hW g35509 sh_15 (by decide) (ty_15 _) (by omega) (by omega) rfl (fun b35510 b35511 => ?_))
          refine wp_of e118 c118_29 (rw_if_le (p1 := 68) (p2 := 32) (by decide) rfl ⟨by omega, by omega⟩ (fun c35512 => ?_) (fun c35512 => ?_))
          · refine wp_of e118 c118_68 (rw_iinc (pc' := 71) (z := v35495) (L' := [(5, vI (v35495 + 1)), (4, vI v35496), (0, .ref r0), (1, .ref r1), (2, vI a2), (3, vI a3)]) rfl rfl rfl rfl ?_)
            refine wp_of e118 c118_71 (rw_goto (p1 := 6) (by decide) ?_)
            exact wp_lc (ks := [5, 4, 0, 1, 2, 3]) (wl_c rfl (wl_c rfl (wl_c rfl (wl_c rfl (wl_c rfl (wl_c rfl wl_n)))))) rfl (by decide) (ih35494 _ (by omega) (v35495 + 1) v35496 ⟨by omega, by omega⟩ ⟨by omega, by omega⟩ rfl)
          · refine wp_of e118 c118_32 (rw_iload (pc' := 34) (z := v35496) rfl rfl ?_)
            refine wp_of e118 c118_34 (rw_if_lt (p1 := 62) (p2 := 37) (by decide) rfl ⟨by omega, by omega⟩ (fun c35513 => ?_) (fun c35513 => ?_))
            · refine wp_of e118 c118_62 (rw_aload_n (pc' := 63) (v := .ref r1) rfl rfl rfl ?_)
              refine wp_of e118 c118_63 (rw_iload (pc' := 65) (z := v35495) rfl rfl ?_)
              refine wp_of e118 c118_65 (xa_I (so := 0) (pc' := 66) hW g1 sh_37 (by decide) (ty_37 _) (by omega) (by omega) rfl (fun b35514 b35515 => ?_))
              refine wp_of e118 c118_66 (rw_istore (pc' := 68) (z := H r1 (v35495.toNat)) (L' := [(4, vI (H r1 (v35495.toNat))), (5, vI v35495), (0, .ref r0), (1, .ref r1), (2, vI a2), (3, vI a3)]) rfl rfl rfl ?_)
              refine wp_of e118 c118_68 (rw_iinc (pc' := 71) (z := v35495) (L' := [(5, vI (v35495 + 1)), (4, vI (H r1 (v35495.toNat))), (0, .ref r0), (1, .ref r1), (2, vI a2), (3, vI a3)]) rfl rfl rfl rfl ?_)
              refine wp_of e118 c118_71 (rw_goto (p1 := 6) (by decide) ?_)
              exact wp_lc (ks := [5, 4, 0, 1, 2, 3]) (wl_c rfl (wl_c rfl (wl_c rfl (wl_c rfl (wl_c rfl (wl_c rfl wl_n)))))) rfl (by decide) (ih35494 _ (by omega) (v35495 + 1) (H r1 (v35495.toNat)) ⟨by omega, by omega⟩ ⟨by omega, by omega⟩ rfl)
            · refine wp_of e118 c118_37 (rw_iload_n (pc' := 38) (z := a3) rfl rfl ?_)
              refine wp_of e118 c118_38 (rw_if_eq (p1 := 53) (p2 := 41) (by decide) rfl ⟨by omega, by omega⟩ (fun c35516 => ?_) (fun c35516 => ?_))
              · refine wp_of e118 c118_53 (rw_aload_n (pc' := 54) (v := .ref r1) rfl rfl rfl ?_)
                refine wp_of e118 c118_54 (rw_iload (pc' := 56) (z := v35495) rfl rfl ?_)
                refine wp_of e118 c118_56 (xa_I (so := 0) (pc' := 57) hW g1 sh_37 (by decide) (ty_37 _) (by omega) (by omega) rfl (fun b35517 b35518 => ?_))
                refine wp_of e118 c118_57 (rw_iload (pc' := 59) (z := v35496) rfl rfl ?_)
                refine wp_of e118 c118_59 (rw_icmp_ge (p1 := 68) (p2 := 62) (by decide) rfl ⟨by omega, by omega⟩ ⟨by omega, by omega⟩ (fun c35519 => ?_) (fun c35519 => ?_))
                · refine wp_of e118 c118_68 (rw_iinc (pc' := 71) (z := v35495) (L' := [(5, vI (v35495 + 1)), (4, vI v35496), (0, .ref r0), (1, .ref r1), (2, vI a2), (3, vI a3)]) rfl rfl rfl rfl ?_)
                  refine wp_of e118 c118_71 (rw_goto (p1 := 6) (by decide) ?_)
                  exact wp_lc (ks := [5, 4, 0, 1, 2, 3]) (wl_c rfl (wl_c rfl (wl_c rfl (wl_c rfl (wl_c rfl (wl_c rfl wl_n)))))) rfl (by decide) (ih35494 _ (by omega) (v35495 + 1) v35496 ⟨by omega, by omega⟩ ⟨by omega, by omega⟩ rfl)
                · refine wp_of e118 c118_62 (rw_aload_n (pc' := 63) (v := .ref r1) rfl rfl rfl ?_)
                  refine wp_of e118 c118_63 (rw_iload (pc' := 65) (z := v35495) rfl rfl ?_)
                  refine wp_of e118 c118_65 (xa_I (so := 0) (pc' := 66) hW g1 sh_37 (by decide) (ty_37 _) (by omega) (by omega) rfl (fun b35520 b35521 => ?_))
                  refine wp_of e118 c118_66 (rw_istore (pc' := 68) (z := H r1 (v35495.toNat)) (L' := [(4, vI (H r1 (v35495.toNat))), (5, vI v35495), (0, .ref r0), (1, .ref r1), (2, vI a2), (3, vI a3)]) rfl rfl rfl ?_)
                  refine wp_of e118 c118_68 (rw_iinc (pc' := 71) (z := v35495) (L' := [(5, vI (v35495 + 1)), (4, vI (H r1 (v35495.toNat))), (0, .ref r0), (1, .ref r1), (2, vI a2), (3, vI a3)]) rfl rfl rfl rfl ?_)
                  refine wp_of e118 c118_71 (rw_goto (p1 := 6) (by decide) ?_)
                  exact wp_lc (ks := [5, 4, 0, 1, 2, 3]) (wl_c rfl (wl_c rfl (wl_c rfl (wl_c rfl (wl_c rfl (wl_c rfl wl_n)))))) rfl (by decide) (ih35494 _ (by omega) (v35495 + 1) (H r1 (v35495.toNat)) ⟨by omega, by omega⟩ ⟨by omega, by omega⟩ rfl)
              · refine wp_of e118 c118_41 (rw_aload_n (pc' := 42) (v := .ref r1) rfl rfl rfl ?_)
                refine wp_of e118 c118_42 (rw_iload (pc' := 44) (z := v35495) rfl rfl ?_)
                refine wp_of e118 c118_44 (xa_I (so := 0) (pc' := 45) hW g1 sh_37 (by decide) (ty_37 _) (by omega) (by omega) rfl (fun b35522 b35523 => ?_))
                refine wp_of e118 c118_45 (rw_iload (pc' := 47) (z := v35496) rfl rfl ?_)
                refine wp_of e118 c118_47 (rw_icmp_le (p1 := 68) (p2 := 50) (by decide) rfl ⟨by omega, by omega⟩ ⟨by omega, by omega⟩ (fun c35524 => ?_) (fun c35524 => ?_))
                · refine wp_of e118 c118_68 (rw_iinc (pc' := 71) (z := v35495) (L' := [(5, vI (v35495 + 1)), (4, vI v35496), (0, .ref r0), (1, .ref r1), (2, vI a2), (3, vI a3)]) rfl rfl rfl rfl ?_)
                  refine wp_of e118 c118_71 (rw_goto (p1 := 6) (by decide) ?_)
                  exact wp_lc (ks := [5, 4, 0, 1, 2, 3]) (wl_c rfl (wl_c rfl (wl_c rfl (wl_c rfl (wl_c rfl (wl_c rfl wl_n)))))) rfl (by decide) (ih35494 _ (by omega) (v35495 + 1) v35496 ⟨by omega, by omega⟩ ⟨by omega, by omega⟩ rfl)
                · refine wp_of e118 c118_50 (rw_goto (p1 := 62) (by decide) ?_)
                  refine wp_of e118 c118_62 (rw_aload_n (pc' := 63) (v := .ref r1) rfl rfl rfl ?_)
                  refine wp_of e118 c118_63 (rw_iload (pc' := 65) (z := v35495) rfl rfl ?_)
                  refine wp_of e118 c118_65 (xa_I (so := 0) (pc' := 66) hW g1 sh_37 (by decide) (ty_37 _) (by omega) (by omega) rfl (fun b35525 b35526 => ?_))
                  refine wp_of e118 c118_66 (rw_istore (pc' := 68) (z := H r1 (v35495.toNat)) (L' := [(4, vI (H r1 (v35495.toNat))), (5, vI v35495), (0, .ref r0), (1, .ref r1), (2, vI a2), (3, vI a3)]) rfl rfl rfl ?_)
                  refine wp_of e118 c118_68 (rw_iinc (pc' := 71) (z := v35495) (L' := [(5, vI (v35495 + 1)), (4, vI (H r1 (v35495.toNat))), (0, .ref r0), (1, .ref r1), (2, vI a2), (3, vI a3)]) rfl rfl rfl rfl ?_)
                  refine wp_of e118 c118_71 (rw_goto (p1 := 6) (by decide) ?_)
                  exact wp_lc (ks := [5, 4, 0, 1, 2, 3]) (wl_c rfl (wl_c rfl (wl_c rfl (wl_c rfl (wl_c rfl (wl_c rfl wl_n)))))) rfl (by decide) (ih35494 _ (by omega) (v35495 + 1) (H r1 (v35495.toNat)) ⟨by omega, by omega⟩ ⟨by omega, by omega⟩ rfl)
  exact wp_lc (ks := [5, 4, 0, 1, 2, 3]) (wl_c rfl (wl_c rfl (wl_c rfl (wl_c rfl (wl_c rfl (wl_c rfl wl_n)))))) rfl (by decide) (lp35492 _ 0 (-1) ⟨by omega, by omega⟩ ⟨by omega, by omega⟩ rfl)
/-! StrikeAwake.bed(IZ)I -/
theorem e117 : wq_en 117 = some (0, 4, false, some FieldType.int) := rfl
theorem c117_0 : mc_cd 117 0 = some (.aload_n 0, 1) := by decide +kernel
theorem c117_1 : mc_cd 117 1 = some (.aload_n 0, 1) := by decide +kernel
theorem c117_2 : mc_cd 117 2 = some (.iload_n 1, 1) := by decide +kernel
theorem c117_3 : mc_cd 117 3 = some (.invokevirtual 105, 3) := by decide +kernel
theorem c117_6 : mc_cd 117 6 = some (.invokevirtual 198, 3) := by decide +kernel
theorem c117_9 : mc_cd 117 9 = some (.istore_n 3, 1) := by decide +kernel
theorem c117_10 : mc_cd 117 10 = some (.iload_n 3, 1) := by decide +kernel
theorem c117_11 : mc_cd 117 11 = some (.ifCond .eq 9, 3) := by decide +kernel
theorem c117_14 : mc_cd 117 14 = some (.aload_n 0, 1) := by decide +kernel
theorem c117_15 : mc_cd 117 15 = some (.iload_n 3, 1) := by decide +kernel
theorem c117_16 : mc_cd 117 16 = some (.invokevirtual 70, 3) := by decide +kernel
theorem c117_19 : mc_cd 117 19 = some (.ireturn, 1) := by decide +kernel
theorem c117_20 : mc_cd 117 20 = some (.aload_n 0, 1) := by decide +kernel
theorem c117_21 : mc_cd 117 21 = some (.aload_n 0, 1) := by decide +kernel
theorem c117_22 : mc_cd 117 22 = some (.getfield 30, 3) := by decide +kernel
theorem c117_25 : mc_cd 117 25 = some (.aload_n 0, 1) := by decide +kernel
theorem c117_26 : mc_cd 117 26 = some (.getfield 51, 3) := by decide +kernel
theorem c117_29 : mc_cd 117 29 = some (.getfield 109, 3) := by decide +kernel
theorem c117_32 : mc_cd 117 32 = some (.iload_n 1, 1) := by decide +kernel
theorem c117_33 : mc_cd 117 33 = some (.aaload, 1) := by decide +kernel
theorem c117_34 : mc_cd 117 34 = some (.getfield 125, 3) := by decide +kernel
theorem c117_37 : mc_cd 117 37 = some (.iload_n 1, 1) := by decide +kernel
theorem c117_38 : mc_cd 117 38 = some (.iload_n 2, 1) := by decide +kernel
theorem c117_39 : mc_cd 117 39 = some (.invokevirtual 223, 3) := by decide +kernel
theorem c117_42 : mc_cd 117 42 = some (.invokevirtual 99, 3) := by decide +kernel
theorem c117_45 : mc_cd 117 45 = some (.ireturn, 1) := by decide +kernel
abbrev q_117 (r0 : Nat) (a1 : Int) (a2 : Int) (T : wq_T) (H : wq_H) : Option Value → wq_T → wq_H → Prop := fun r T' H' => T = T' ∧ WT T H' ∧ wfr [(12, 5), (12, 6), (12, 7), (12, 8), (12, 9), (1, 10), (6, 5), (8, 999), (10, 999), (15, 999), (9, 999), (18, 999), (19, 999), (7, 999), (11, 999), (17, 999), (13, 999)] T H H' ∧ ∃ z : Int, some (vI z) = r ∧ ((-2147483648) ≤ z ∧ z ≤ 2147483647) ∧ (H' r0 10 ≠ 4)
set_option maxHeartbeats 4000000 in
theorem s_117 {kt : Nat → Option mc_E} {T : wq_T} {H : wq_H} {r0 : Nat} {a1 : Int} {a2 : Int} (hW : WT T H) (g0 : T.2.2.2 r0 = some 1) (i1 : (-2147483648) ≤ a1 ∧ a1 ≤ 2147483647) (i2 : 0 ≤ a2 ∧ a2 ≤ 1) : wpc kt 7 117 [.ref r0, vI a1, vI a2] T H (q_117 r0 a1 a2 T H) := by
  refine wp_enter e117 (Nat.le_of_ble_eq_true rfl) rfl ?_
  have f0 : wfr [(12, 5), (12, 6), (12, 7), (12, 8), (12, 9), (1, 10), (6, 5), (8, 999), (10, 999), (15, 999), (9, 999), (18, 999), (19, 999), (7, 999), (11, 999), (17, 999), (13, 999)] T H H := wfr.rf
  show wp _ _ 117 0 [(0, .ref r0), (1, vI a1), (2, vI a2)] [] _ H _
  refine wp_of e117 c117_0 (rw_aload_n (pc' := 1) (v := .ref r0) rfl rfl rfl ?_)
  refine wp_of e117 c117_1 (rw_aload_n (pc' := 2) (v := .ref r0) rfl rfl rfl ?_)
  refine wp_of e117 c117_2 (rw_iload_n (pc' := 3) (z := a1) rfl rfl ?_)
  refine wp_of e117 c117_3 (xc_V (pc' := 6) (r := r0) (as := [vI a1]) (st := [.ref r0]) (lm_0_105) rfl rfl (Nat.le_of_ble_eq_true rfl) hW g0 sh_1 (by decide) rfl (by decide) (s_55 hW g0 ⟨by omega, by omega⟩) (fun R35599 T35600 H35601 p35602 => ?_))
  obtain ⟨e35603, e35605, z35607, e35604, b35608, p35606⟩ := p35602
  subst e35603
  subst e35604
  subst e35605
  show wp _ _ 117 6 [(0, .ref r0), (1, vI a1), (2, vI a2)] [vI z35607, .ref r0] _ H _
  refine wp_of e117 c117_6 (xc_V (pc' := 9) (r := r0) (as := [vI z35607]) (st := []) (lm_0_198) rfl rfl (Nat.le_of_ble_eq_true rfl) hW g0 sh_1 (by decide) rfl (by decide) (s_102 hW g0 ⟨by omega, by omega⟩) (fun R35609 T35610 H35611 p35612 => ?_))
  obtain ⟨e35613, w35615, f35616, z35619, e35614, b35620, p35617, p35618⟩ := p35612
  subst e35613
  subst e35614
  have f35621 := f0.tr f35616 rfl
  show wp _ _ 117 9 [(0, .ref r0), (1, vI a1), (2, vI a2)] [vI z35619] _ H35611 _
  refine wp_of e117 c117_9 (rw_istore_n (pc' := 10) (z := z35619) (L' := [(3, vI z35619), (0, .ref r0), (1, vI a1), (2, vI a2)]) rfl rfl rfl ?_)
  refine wp_of e117 c117_10 (rw_iload_n (pc' := 11) (z := z35619) rfl rfl ?_)
  refine wp_of e117 c117_11 (rw_if_eq (p1 := 20) (p2 := 14) (by decide) rfl ⟨by omega, by omega⟩ (fun c35622 => ?_) (fun c35622 => ?_))
  · refine wp_of e117 c117_20 (rw_aload_n (pc' := 21) (v := .ref r0) rfl rfl rfl ?_)
    refine wp_of e117 c117_21 (rw_aload_n (pc' := 22) (v := .ref r0) rfl rfl rfl ?_)
    refine wp_of e117 c117_22 (xg_R (pc' := 25) lf_0_30 w35615 g0 sh_1 (by decide) (by decide) ty_1_3 rfl rfl (fun r35623 q35624 g35625 => ?_))
    refine wp_of e117 c117_25 (rw_aload_n (pc' := 26) (v := .ref r0) rfl rfl rfl ?_)
    refine wp_of e117 c117_26 (xg_R (pc' := 29) lf_0_51 w35615 g0 sh_1 (by decide) (by decide) ty_1_6 rfl rfl (fun r35626 q35627 g35628 => ?_))
    refine wp_of e117 c117_29 (xg_R (pc' := 32) lf_0_109 w35615 g35628 sh_27 (by decide) (by decide) ty_27_0 rfl rfl (fun r35629 q35630 g35631 => ?_))
    refine wp_of e117 c117_32 (rw_iload_n (pc' := 33) (z := a1) rfl rfl ?_)
    refine wp_of e117 c117_33 (xa_R (pc' := 34) (by decide) w35615 g35631 sh_28 (by decide) (ty_28 _) (by omega) (by omega) rfl (fun r35632 q35633 g35634 => ?_))
    refine wp_of e117 c117_34 (xg_R (pc' := 37) lf_0_125 w35615 g35634 sh_35 (by decide) (by decide) ty_35_0 rfl rfl (fun r35635 q35636 g35637 => ?_))
    refine wp_of e117 c117_37 (rw_iload_n (pc' := 38) (z := a1) rfl rfl ?_)
    refine wp_of e117 c117_38 (rw_iload_n (pc' := 39) (z := a2) rfl rfl ?_)
    refine wp_of e117 c117_39 (xc_V (pc' := 42) (r := r35623) (as := [.ref r35635, vI a1, vI a2]) (st := [.ref r0]) (lm_0_223) rfl rfl (Nat.le_of_ble_eq_true rfl) w35615 g35625 sh_12 (by decide) rfl (by decide) (s_118_b w35615 g35625 g35637 ⟨by omega, by omega⟩ ⟨by omega, by omega⟩) (fun R35638 T35639 H35640 p35641 => ?_))
    obtain ⟨e35642, e35644, z35645, e35643, b35646⟩ := p35641
    subst e35642
    subst e35643
    subst e35644
    show wp _ _ 117 42 [(3, vI z35619), (0, .ref r0), (1, vI a1), (2, vI a2)] [vI z35645, .ref r0] _ H35611 _
    refine wp_of e117 c117_42 (xc_V (pc' := 45) (r := r0) (as := [vI z35645]) (st := []) (lm_0_99) rfl rfl (Nat.le_of_ble_eq_true rfl) w35615 g0 sh_1 (by decide) rfl (by decide) (s_51 w35615 g0 ⟨by omega, by omega⟩) (fun R35647 T35648 H35649 p35650 => ?_))
    obtain ⟨e35651, w35653, f35654, z35656, e35652, b35657, p35655⟩ := p35650
    subst e35651
    subst e35652
    have f35658 := f35621.tr f35654 rfl
    show wp _ _ 117 45 [(3, vI z35619), (0, .ref r0), (1, vI a1), (2, vI a2)] [vI z35656] _ H35649 _
    exact wp_ireturn e117 c117_45 rfl ⟨rfl, w35653, f35658, z35656, rfl, ⟨by omega, by omega⟩, by omega⟩
  · refine wp_of e117 c117_14 (rw_aload_n (pc' := 15) (v := .ref r0) rfl rfl rfl ?_)
    refine wp_of e117 c117_15 (rw_iload_n (pc' := 16) (z := z35619) rfl rfl ?_)
    refine wp_of e117 c117_16 (xc_V (pc' := 19) (r := r0) (as := [vI z35619]) (st := []) (lm_0_70) rfl rfl (Nat.le_of_ble_eq_true rfl) w35615 g0 sh_1 (by decide) rfl (by decide) (s_12 w35615 g0 ⟨by omega, by omega⟩) (fun R35659 T35660 H35661 p35662 => ?_))
    obtain ⟨e35663, w35665, f35666, z35668, e35664, b35669, p35667⟩ := p35662
    subst e35663
    subst e35664
    have f35670 := f35621.tr f35666 rfl
    show wp _ _ 117 19 [(3, vI z35619), (0, .ref r0), (1, vI a1), (2, vI a2)] [vI z35668] _ H35661 _
    exact wp_ireturn e117 c117_19 rfl ⟨rfl, w35665, f35670, z35668, rfl, ⟨by omega, by omega⟩, by omega⟩
/-! StrikeAwake.sleeps(IZ)I -/
theorem e119 : wq_en 119 = some (0, 4, false, some FieldType.int) := rfl
theorem c119_0 : mc_cd 119 0 = some (.aload_n 0, 1) := by decide +kernel
theorem c119_1 : mc_cd 119 1 = some (.aload_n 0, 1) := by decide +kernel
theorem c119_2 : mc_cd 119 2 = some (.iload_n 1, 1) := by decide +kernel
theorem c119_3 : mc_cd 119 3 = some (.invokevirtual 105, 3) := by decide +kernel
theorem c119_6 : mc_cd 119 6 = some (.invokevirtual 198, 3) := by decide +kernel
theorem c119_9 : mc_cd 119 9 = some (.istore_n 3, 1) := by decide +kernel
theorem c119_10 : mc_cd 119 10 = some (.iload_n 3, 1) := by decide +kernel
theorem c119_11 : mc_cd 119 11 = some (.ifCond .eq 9, 3) := by decide +kernel
theorem c119_14 : mc_cd 119 14 = some (.aload_n 0, 1) := by decide +kernel
theorem c119_15 : mc_cd 119 15 = some (.iload_n 3, 1) := by decide +kernel
theorem c119_16 : mc_cd 119 16 = some (.invokevirtual 70, 3) := by decide +kernel
theorem c119_19 : mc_cd 119 19 = some (.ireturn, 1) := by decide +kernel
theorem c119_20 : mc_cd 119 20 = some (.aload_n 0, 1) := by decide +kernel
theorem c119_21 : mc_cd 119 21 = some (.aload_n 0, 1) := by decide +kernel
theorem c119_22 : mc_cd 119 22 = some (.getfield 30, 3) := by decide +kernel
theorem c119_25 : mc_cd 119 25 = some (.aload_n 0, 1) := by decide +kernel
theorem c119_26 : mc_cd 119 26 = some (.getfield 51, 3) := by decide +kernel
theorem c119_29 : mc_cd 119 29 = some (.getfield 109, 3) := by decide +kernel
theorem c119_32 : mc_cd 119 32 = some (.iload_n 1, 1) := by decide +kernel
theorem c119_33 : mc_cd 119 33 = some (.aaload, 1) := by decide +kernel
theorem c119_34 : mc_cd 119 34 = some (.getfield 129, 3) := by decide +kernel
theorem c119_37 : mc_cd 119 37 = some (.iload_n 1, 1) := by decide +kernel
theorem c119_38 : mc_cd 119 38 = some (.iload_n 2, 1) := by decide +kernel
theorem c119_39 : mc_cd 119 39 = some (.invokevirtual 223, 3) := by decide +kernel
theorem c119_42 : mc_cd 119 42 = some (.invokevirtual 99, 3) := by decide +kernel
theorem c119_45 : mc_cd 119 45 = some (.ireturn, 1) := by decide +kernel
abbrev q_119 (r0 : Nat) (a1 : Int) (a2 : Int) (T : wq_T) (H : wq_H) : Option Value → wq_T → wq_H → Prop := fun r T' H' => T = T' ∧ WT T H' ∧ wfr [(12, 5), (12, 6), (12, 7), (12, 8), (12, 9), (1, 10), (6, 5), (8, 999), (10, 999), (15, 999), (9, 999), (18, 999), (19, 999), (7, 999), (11, 999), (17, 999), (13, 999)] T H H' ∧ ∃ z : Int, some (vI z) = r ∧ ((-2147483648) ≤ z ∧ z ≤ 2147483647) ∧ (H' r0 10 ≠ 4)
set_option maxHeartbeats 4000000 in
theorem s_119 {kt : Nat → Option mc_E} {T : wq_T} {H : wq_H} {r0 : Nat} {a1 : Int} {a2 : Int} (hW : WT T H) (g0 : T.2.2.2 r0 = some 1) (i1 : (-2147483648) ≤ a1 ∧ a1 ≤ 2147483647) (i2 : 0 ≤ a2 ∧ a2 ≤ 1) : wpc kt 7 119 [.ref r0, vI a1, vI a2] T H (q_119 r0 a1 a2 T H) := by
  refine wp_enter e119 (Nat.le_of_ble_eq_true rfl) rfl ?_
  have f0 : wfr [(12, 5), (12, 6), (12, 7), (12, 8), (12, 9), (1, 10), (6, 5), (8, 999), (10, 999), (15, 999), (9, 999), (18, 999), (19, 999), (7, 999), (11, 999), (17, 999), (13, 999)] T H H := wfr.rf
  show wp _ _ 119 0 [(0, .ref r0), (1, vI a1), (2, vI a2)] [] _ H _
  refine wp_of e119 c119_0 (rw_aload_n (pc' := 1) (v := .ref r0) rfl rfl rfl ?_)
  refine wp_of e119 c119_1 (rw_aload_n (pc' := 2) (v := .ref r0) rfl rfl rfl ?_)
  refine wp_of e119 c119_2 (rw_iload_n (pc' := 3) (z := a1) rfl rfl ?_)
  refine wp_of e119 c119_3 (xc_V (pc' := 6) (r := r0) (as := [vI a1]) (st := [.ref r0]) (lm_0_105) rfl rfl (Nat.le_of_ble_eq_true rfl) hW g0 sh_1 (by decide) rfl (by decide) (s_55 hW g0 ⟨by omega, by omega⟩) (fun R35743 T35744 H35745 p35746 => ?_))
  obtain ⟨e35747, e35749, z35751, e35748, b35752, p35750⟩ := p35746
  subst e35747
  subst e35748
  subst e35749
  show wp _ _ 119 6 [(0, .ref r0), (1, vI a1), (2, vI a2)] [vI z35751, .ref r0] _ H _
  refine wp_of e119 c119_6 (xc_V (pc' := 9) (r := r0) (as := [vI z35751]) (st := []) (lm_0_198) rfl rfl (Nat.le_of_ble_eq_true rfl) hW g0 sh_1 (by decide) rfl (by decide) (s_102 hW g0 ⟨by omega, by omega⟩) (fun R35753 T35754 H35755 p35756 => ?_))
  obtain ⟨e35757, w35759, f35760, z35763, e35758, b35764, p35761, p35762⟩ := p35756
  subst e35757
  subst e35758
  have f35765 := f0.tr f35760 rfl
  show wp _ _ 119 9 [(0, .ref r0), (1, vI a1), (2, vI a2)] [vI z35763] _ H35755 _
  refine wp_of e119 c119_9 (rw_istore_n (pc' := 10) (z := z35763) (L' := [(3, vI z35763), (0, .ref r0), (1, vI a1), (2, vI a2)]) rfl rfl rfl ?_)
  refine wp_of e119 c119_10 (rw_iload_n (pc' := 11) (z := z35763) rfl rfl ?_)
  refine wp_of e119 c119_11 (rw_if_eq (p1 := 20) (p2 := 14) (by decide) rfl ⟨by omega, by omega⟩ (fun c35766 => ?_) (fun c35766 => ?_))
  · refine wp_of e119 c119_20 (rw_aload_n (pc' := 21) (v := .ref r0) rfl rfl rfl ?_)
    refine wp_of e119 c119_21 (rw_aload_n (pc' := 22) (v := .ref r0) rfl rfl rfl ?_)
    refine wp_of e119 c119_22 (xg_R (pc' := 25) lf_0_30 w35759 g0 sh_1 (by decide) (by decide) ty_1_3 rfl rfl (fun r35767 q35768 g35769 => ?_))
    refine wp_of e119 c119_25 (rw_aload_n (pc' := 26) (v := .ref r0) rfl rfl rfl ?_)
    refine wp_of e119 c119_26 (xg_R (pc' := 29) lf_0_51 w35759 g0 sh_1 (by decide) (by decide) ty_1_6 rfl rfl (fun r35770 q35771 g35772 => ?_))
    refine wp_of e119 c119_29 (xg_R (pc' := 32) lf_0_109 w35759 g35772 sh_27 (by decide) (by decide) ty_27_0 rfl rfl (fun r35773 q35774 g35775 => ?_))
    refine wp_of e119 c119_32 (rw_iload_n (pc' := 33) (z := a1) rfl rfl ?_)
    refine wp_of e119 c119_33 (xa_R (pc' := 34) (by decide) w35759 g35775 sh_28 (by decide) (ty_28 _) (by omega) (by omega) rfl (fun r35776 q35777 g35778 => ?_))
    refine wp_of e119 c119_34 (xg_R (pc' := 37) lf_0_129 w35759 g35778 sh_35 (by decide) (by decide) ty_35_1 rfl rfl (fun r35779 q35780 g35781 => ?_))
    refine wp_of e119 c119_37 (rw_iload_n (pc' := 38) (z := a1) rfl rfl ?_)
    refine wp_of e119 c119_38 (rw_iload_n (pc' := 39) (z := a2) rfl rfl ?_)
    refine wp_of e119 c119_39 (xc_V (pc' := 42) (r := r35767) (as := [.ref r35779, vI a1, vI a2]) (st := [.ref r0]) (lm_0_223) rfl rfl (Nat.le_of_ble_eq_true rfl) w35759 g35769 sh_12 (by decide) rfl (by decide) (s_118_s w35759 g35769 g35781 ⟨by omega, by omega⟩ ⟨by omega, by omega⟩) (fun R35782 T35783 H35784 p35785 => ?_))
    obtain ⟨e35786, e35788, z35789, e35787, b35790⟩ := p35785
    subst e35786
    subst e35787
    subst e35788
    show wp _ _ 119 42 [(3, vI z35763), (0, .ref r0), (1, vI a1), (2, vI a2)] [vI z35789, .ref r0] _ H35755 _
    refine wp_of e119 c119_42 (xc_V (pc' := 45) (r := r0) (as := [vI z35789]) (st := []) (lm_0_99) rfl rfl (Nat.le_of_ble_eq_true rfl) w35759 g0 sh_1 (by decide) rfl (by decide) (s_51 w35759 g0 ⟨by omega, by omega⟩) (fun R35791 T35792 H35793 p35794 => ?_))
    obtain ⟨e35795, w35797, f35798, z35800, e35796, b35801, p35799⟩ := p35794
    subst e35795
    subst e35796
    have f35802 := f35765.tr f35798 rfl
    show wp _ _ 119 45 [(3, vI z35763), (0, .ref r0), (1, vI a1), (2, vI a2)] [vI z35800] _ H35793 _
    exact wp_ireturn e119 c119_45 rfl ⟨rfl, w35797, f35802, z35800, rfl, ⟨by omega, by omega⟩, by omega⟩
  · refine wp_of e119 c119_14 (rw_aload_n (pc' := 15) (v := .ref r0) rfl rfl rfl ?_)
    refine wp_of e119 c119_15 (rw_iload_n (pc' := 16) (z := z35763) rfl rfl ?_)
    refine wp_of e119 c119_16 (xc_V (pc' := 19) (r := r0) (as := [vI z35763]) (st := []) (lm_0_70) rfl rfl (Nat.le_of_ble_eq_true rfl) w35759 g0 sh_1 (by decide) rfl (by decide) (s_12 w35759 g0 ⟨by omega, by omega⟩) (fun R35803 T35804 H35805 p35806 => ?_))
    obtain ⟨e35807, w35809, f35810, z35812, e35808, b35813, p35811⟩ := p35806
    subst e35807
    subst e35808
    have f35814 := f35765.tr f35810 rfl
    show wp _ _ 119 19 [(3, vI z35763), (0, .ref r0), (1, vI a1), (2, vI a2)] [vI z35812] _ H35805 _
    exact wp_ireturn e119 c119_19 rfl ⟨rfl, w35809, f35814, z35812, rfl, ⟨by omega, by omega⟩, by omega⟩
/-! StrikeAwake.barOfAsking(Z)I -/
theorem e121 : wq_en 121 = some (0, 3, false, some FieldType.int) := rfl
theorem c121_0 : mc_cd 121 0 = some (.aload_n 0, 1) := by decide +kernel
theorem c121_1 : mc_cd 121 1 = some (.iload_n 1, 1) := by decide +kernel
theorem c121_2 : mc_cd 121 2 = some (.invokevirtual 174, 3) := by decide +kernel
theorem c121_5 : mc_cd 121 5 = some (.istore_n 2, 1) := by decide +kernel
theorem c121_6 : mc_cd 121 6 = some (.iload_n 2, 1) := by decide +kernel
theorem c121_7 : mc_cd 121 7 = some (.ifCond .eq 5, 3) := by decide +kernel
theorem c121_10 : mc_cd 121 10 = some (.iload_n 2, 1) := by decide +kernel
theorem c121_11 : mc_cd 121 11 = some (.ireturn, 1) := by decide +kernel
theorem c121_12 : mc_cd 121 12 = some (.aload_n 0, 1) := by decide +kernel
theorem c121_13 : mc_cd 121 13 = some (.getfield 30, 3) := by decide +kernel
theorem c121_16 : mc_cd 121 16 = some (.getfield 177, 3) := by decide +kernel
theorem c121_19 : mc_cd 121 19 = some (.sipush 400, 3) := by decide +kernel
theorem c121_22 : mc_cd 121 22 = some (.if_icmp .le 5, 3) := by decide +kernel
theorem c121_25 : mc_cd 121 25 = some (.iconst 3, 1) := by decide +kernel
theorem c121_26 : mc_cd 121 26 = some (.ireturn, 1) := by decide +kernel
theorem c121_27 : mc_cd 121 27 = some (.aload_n 0, 1) := by decide +kernel
theorem c121_28 : mc_cd 121 28 = some (.getfield 30, 3) := by decide +kernel
theorem c121_31 : mc_cd 121 31 = some (.getfield 177, 3) := by decide +kernel
theorem c121_34 : mc_cd 121 34 = some (.ifCond .ne 8, 3) := by decide +kernel
theorem c121_37 : mc_cd 121 37 = some (.bipush 6, 2) := by decide +kernel
theorem c121_39 : mc_cd 121 39 = some (.goto 4, 3) := by decide +kernel
theorem c121_42 : mc_cd 121 42 = some (.iconst 0, 1) := by decide +kernel
theorem c121_43 : mc_cd 121 43 = some (.ireturn, 1) := by decide +kernel
abbrev q_121 (r0 : Nat) (a1 : Int) (T : wq_T) (H : wq_H) : Option Value → wq_T → wq_H → Prop := fun r T' H' => T = T' ∧ WT T H' ∧ wfr [(12, 5), (12, 6), (12, 7), (12, 8), (12, 9), (6, 5), (8, 999), (10, 999), (15, 999), (9, 999), (18, 999), (19, 999), (7, 999), (11, 999), (17, 999), (13, 999)] T H H' ∧ ∃ z : Int, some (vI z) = r ∧ (0 ≤ z ∧ z ≤ 6) ∧ (z ≠ 0 ∨ a1 = 1) ∧ (z ≠ 4)
set_option maxHeartbeats 4000000 in
theorem s_121 {kt : Nat → Option mc_E} {T : wq_T} {H : wq_H} {r0 : Nat} {a1 : Int} (hW : WT T H) (g0 : T.2.2.2 r0 = some 1) (i1 : 0 ≤ a1 ∧ a1 ≤ 1) : wpc kt 6 121 [.ref r0, vI a1] T H (q_121 r0 a1 T H) := by
  refine wp_enter e121 (Nat.le_of_ble_eq_true rfl) rfl ?_
  have f0 : wfr [(12, 5), (12, 6), (12, 7), (12, 8), (12, 9), (6, 5), (8, 999), (10, 999), (15, 999), (9, 999), (18, 999), (19, 999), (7, 999), (11, 999), (17, 999), (13, 999)] T H H := wfr.rf
  show wp _ _ 121 0 [(0, .ref r0), (1, vI a1)] [] _ H _
  refine wp_of e121 c121_0 (rw_aload_n (pc' := 1) (v := .ref r0) rfl rfl rfl ?_)
  refine wp_of e121 c121_1 (rw_iload_n (pc' := 2) (z := a1) rfl rfl ?_)
  refine wp_of e121 c121_2 (xc_V (pc' := 5) (r := r0) (as := [vI a1]) (st := []) (lm_0_174) rfl rfl (Nat.le_of_ble_eq_true rfl) hW g0 sh_1 (by decide) rfl (by decide) (s_83 hW g0 ⟨by omega, by omega⟩) (fun R35838 T35839 H35840 p35841 => ?_))
  obtain ⟨e35842, w35844, f35845, z35848, e35843, b35849, p35846, p35847⟩ := p35841
  subst e35842
  subst e35843
  have f35850 := f0.tr f35845 rfl
  show wp _ _ 121 5 [(0, .ref r0), (1, vI a1)] [vI z35848] _ H35840 _
  refine wp_of e121 c121_5 (rw_istore_n (pc' := 6) (z := z35848) (L' := [(2, vI z35848), (0, .ref r0), (1, vI a1)]) rfl rfl rfl ?_)
  refine wp_of e121 c121_6 (rw_iload_n (pc' := 7) (z := z35848) rfl rfl ?_)
  refine wp_of e121 c121_7 (rw_if_eq (p1 := 12) (p2 := 10) (by decide) rfl ⟨by omega, by omega⟩ (fun c35851 => ?_) (fun c35851 => ?_))
  · refine wp_of e121 c121_12 (rw_aload_n (pc' := 13) (v := .ref r0) rfl rfl rfl ?_)
    refine wp_of e121 c121_13 (xg_R (pc' := 16) lf_0_30 w35844 g0 sh_1 (by decide) (by decide) ty_1_3 rfl rfl (fun r35852 q35853 g35854 => ?_))
    refine wp_of e121 c121_16 (xg_I (pc' := 19) lf_0_177 w35844 g35854 sh_12 (by decide) (by decide) ty_12_5 rfl rfl (fun b35855 b35856 => ?_))
    refine wp_of e121 c121_19 (rw_sipush (pc' := 22) (z := 400) rfl (by decide) ?_)
    refine wp_of e121 c121_22 (rw_icmp_le (p1 := 27) (p2 := 25) (by decide) rfl ⟨by omega, by omega⟩ ⟨by omega, by omega⟩ (fun c35857 => ?_) (fun c35857 => ?_))
    · refine wp_of e121 c121_27 (rw_aload_n (pc' := 28) (v := .ref r0) rfl rfl rfl ?_)
      refine wp_of e121 c121_28 (xg_K (pc' := 31) lf_0_30 w35844 g0 sh_1 (by decide) (by decide) rfl q35853 rfl ?_)
      refine wp_of e121 c121_31 (xg_I (pc' := 34) lf_0_177 w35844 g35854 sh_12 (by decide) (by decide) ty_12_5 rfl rfl (fun b35858 b35859 => ?_))
      refine wp_of e121 c121_34 (rw_if_ne (p1 := 42) (p2 := 37) (by decide) rfl ⟨by omega, by omega⟩ (fun c35860 => ?_) (fun c35860 => ?_))
      · refine wp_of e121 c121_42 (rw_iconst (pc' := 43) rfl ?_)
        exact wp_ireturn e121 c121_43 rfl ⟨rfl, w35844, f35850, 0, rfl, ⟨by omega, by omega⟩, by omega, by omega⟩
      · refine wp_of e121 c121_37 (rw_bipush (pc' := 39) (z := 6) rfl (by decide) ?_)
        refine wp_of e121 c121_39 (rw_goto (p1 := 43) (by decide) ?_)
        exact wp_ireturn e121 c121_43 rfl ⟨rfl, w35844, f35850, 6, rfl, ⟨by omega, by omega⟩, by omega, by omega⟩
    · refine wp_of e121 c121_25 (rw_iconst (pc' := 26) rfl ?_)
      exact wp_ireturn e121 c121_26 rfl ⟨rfl, w35844, f35850, 3, rfl, ⟨by omega, by omega⟩, by omega, by omega⟩
  · refine wp_of e121 c121_10 (rw_iload_n (pc' := 11) (z := z35848) rfl rfl ?_)
    exact wp_ireturn e121 c121_11 rfl ⟨rfl, w35844, f35850, z35848, rfl, ⟨by omega, by omega⟩, by omega, by omega⟩
/-! StrikeAwake$Census.nextFrom(ILStrikeAwake$Parish;)I -/
theorem e124 : wq_en 124 = some (4, 4, false, some FieldType.int) := rfl
theorem c124_0 : mc_cd 124 0 = some (.iload_n 1, 1) := by decide +kernel
theorem c124_1 : mc_cd 124 1 = some (.istore_n 3, 1) := by decide +kernel
theorem c124_2 : mc_cd 124 2 = some (.iload_n 3, 1) := by decide +kernel
theorem c124_3 : mc_cd 124 3 = some (.i2l, 1) := by decide +kernel
theorem c124_4 : mc_cd 124 4 = some (.aload_n 2, 1) := by decide +kernel
theorem c124_5 : mc_cd 124 5 = some (.getfield 45, 3) := by decide +kernel
theorem c124_8 : mc_cd 124 8 = some (.lcmp, 1) := by decide +kernel
theorem c124_9 : mc_cd 124 9 = some (.ifCond .ge 26, 3) := by decide +kernel
theorem c124_12 : mc_cd 124 12 = some (.iload_n 3, 1) := by decide +kernel
theorem c124_13 : mc_cd 124 13 = some (.sipush 20000, 3) := by decide +kernel
theorem c124_16 : mc_cd 124 16 = some (.if_icmp .ge 19, 3) := by decide +kernel
theorem c124_19 : mc_cd 124 19 = some (.aload_n 0, 1) := by decide +kernel
theorem c124_20 : mc_cd 124 20 = some (.iload_n 3, 1) := by decide +kernel
theorem c124_21 : mc_cd 124 21 = some (.invokevirtual 113, 3) := by decide +kernel
theorem c124_24 : mc_cd 124 24 = some (.ifCond .eq 5, 3) := by decide +kernel
theorem c124_27 : mc_cd 124 27 = some (.iload_n 3, 1) := by decide +kernel
theorem c124_28 : mc_cd 124 28 = some (.ireturn, 1) := by decide +kernel
theorem c124_29 : mc_cd 124 29 = some (.iinc 3 1, 3) := by decide +kernel
theorem c124_32 : mc_cd 124 32 = some (.goto (-30), 3) := by decide +kernel
theorem c124_35 : mc_cd 124 35 = some (.iconst (-1), 1) := by decide +kernel
theorem c124_36 : mc_cd 124 36 = some (.ireturn, 1) := by decide +kernel
abbrev q_124 (r0 : Nat) (a1 : Int) (r2 : Nat) (T : wq_T) (H : wq_H) : Option Value → wq_T → wq_H → Prop := fun r T' H' => T = T' ∧ H = H' ∧ ∃ z : Int, some (vI z) = r ∧ ((-1) ≤ z ∧ z ≤ 19999)
set_option maxHeartbeats 4000000 in
theorem s_124 {kt : Nat → Option mc_E} {T : wq_T} {H : wq_H} {r0 : Nat} {a1 : Int} {r2 : Nat} (hW : WT T H) (g0 : T.2.2.2 r0 = some 12) (i1 : 0 ≤ a1 ∧ a1 ≤ 2147483647) (g2 : T.2.2.2 r2 = some 27) : wpc kt 2 124 [.ref r0, vI a1, .ref r2] T H (q_124 r0 a1 r2 T H) := by
  refine wp_enter e124 (Nat.le_of_ble_eq_true rfl) rfl ?_
  show wp _ _ 124 0 [(0, .ref r0), (1, vI a1), (2, .ref r2)] [] _ H _
  refine wp_of e124 c124_0 (rw_iload_n (pc' := 1) (z := a1) rfl rfl ?_)
  refine wp_of e124 c124_1 (rw_istore_n (pc' := 2) (z := a1) (L' := [(3, vI a1), (0, .ref r0), (1, vI a1), (2, .ref r2)]) rfl rfl rfl ?_)
  have lp35907 : ∀ (n35908 : Nat) (v35910 : Int), (0 ≤ v35910 ∧ v35910 ≤ 2147483647) → (2147483647 - v35910).toNat = n35908 → wp kt 1 124 2 [(3, vI v35910), (0, .ref r0), (2, .ref r2)] [] T H (q_124 r0 a1 r2 T H) := by
    intro n35908
    induction n35908 using Nat.strongRecOn with
    | _ n35908 ih35909 =>
      intro v35910 b35913 m35914
      refine wp_of e124 c124_2 (rw_iload_n (pc' := 3) (z := v35910) rfl rfl ?_)
      refine wp_of e124 c124_3 (rw_i2l (pc' := 4) rfl ⟨by omega, by omega⟩ ?_)
      refine wp_of e124 c124_4 (rw_aload_n (pc' := 5) (v := .ref r2) rfl rfl rfl ?_)
      refine wp_of e124 c124_5 (xg_L (pc' := 8) lf_4_45 hW g2 sh_27 (by decide) (by decide) ty_27_18 rfl rfl (fun b35915 b35916 => ?_))
      refine wp_of e124 c124_8 (rw_lcmp (pc' := 9) rfl ⟨by omega, by omega⟩ ⟨by omega, by omega⟩ ?_)
      have b35917 := wq_cmp_b v35910 (H r2 18)
      refine wp_of e124 c124_9 (rw_if_ge (p1 := 35) (p2 := 12) (by decide) rfl ⟨by omega, by omega⟩ (fun c35918 => ?_) (fun c35918 => ?_))
      · refine wp_of e124 c124_35 (rw_iconst (pc' := 36) rfl ?_)
        exact wp_ireturn e124 c124_36 rfl ⟨rfl, rfl, -1, rfl, ⟨by omega, by omega⟩⟩
      · refine wp_of e124 c124_12 (rw_iload_n (pc' := 13) (z := v35910) rfl rfl ?_)
        refine wp_of e124 c124_13 (rw_sipush (pc' := 16) (z := 20000) rfl (by decide) ?_)
        refine wp_of e124 c124_16 (rw_icmp_ge (p1 := 35) (p2 := 19) (by decide) rfl ⟨by omega, by omega⟩ ⟨by omega, by omega⟩ (fun c35919 => ?_) (fun c35919 => ?_))
        · refine wp_of e124 c124_35 (rw_iconst (pc' := 36) rfl ?_)
          exact wp_ireturn e124 c124_36 rfl ⟨rfl, rfl, -1, rfl, ⟨by omega, by omega⟩⟩
        · refine wp_of e124 c124_19 (rw_aload_n (pc' := 20) (v := .ref r0) rfl rfl rfl ?_)
          refine wp_of e124 c124_20 (rw_iload_n (pc' := 21) (z := v35910) rfl rfl ?_)
          refine wp_of e124 c124_21 (xc_V (pc' := 24) (r := r0) (as := [vI v35910]) (st := []) (lm_4_113) rfl rfl (Nat.le_of_ble_eq_true rfl) hW g0 sh_12 (by decide) rfl (by decide) (s_95 hW g0 ⟨by omega, by omega⟩) (fun R35920 T35921 H35922 p35923 => ?_))
          obtain ⟨e35924, e35926, z35927, e35925, b35928⟩ := p35923
          subst e35924
          subst e35925
          subst e35926
          show wp _ _ 124 24 [(3, vI v35910), (0, .ref r0), (2, .ref r2)] [vI z35927] _ H _
          refine wp_of e124 c124_24 (rw_if_eq (p1 := 29) (p2 := 27) (by decide) rfl ⟨by omega, by omega⟩ (fun c35929 => ?_) (fun c35929 => ?_))
          · refine wp_of e124 c124_29 (rw_iinc (pc' := 32) (z := v35910) (L' := [(3, vI (v35910 + 1)), (0, .ref r0), (2, .ref r2)]) rfl rfl rfl rfl ?_)
            refine wp_of e124 c124_32 (rw_goto (p1 := 2) (by decide) ?_)
            exact wp_lc (ks := [3, 0, 2]) (wl_c rfl (wl_c rfl (wl_c rfl wl_n))) rfl (by decide) (ih35909 _ (by omega) (v35910 + 1) ⟨by omega, by omega⟩ rfl)
          · refine wp_of e124 c124_27 (rw_iload_n (pc' := 28) (z := v35910) rfl rfl ?_)
            exact wp_ireturn e124 c124_28 rfl ⟨rfl, rfl, v35910, rfl, ⟨by omega, by omega⟩⟩
  exact wp_lc (ks := [3, 0, 1, 2]) (wl_c rfl (wl_c rfl (wl_c rfl wl_n))) rfl (by decide) (lp35907 _ a1 ⟨by omega, by omega⟩ rfl)
/-! StrikeAwake$Asking.gather(LStrikeAwake$Parish;LStrikeAwake$Census;)V -/
theorem e123 : wq_en 123 = some (5, 5, false, none) := rfl
theorem c123_0 : mc_cd 123 0 = some (.aload_n 0, 1) := by decide +kernel
theorem c123_1 : mc_cd 123 1 = some (.iconst 0, 1) := by decide +kernel
theorem c123_2 : mc_cd 123 2 = some (.putfield 28, 3) := by decide +kernel
theorem c123_5 : mc_cd 123 5 = some (.aload_n 2, 1) := by decide +kernel
theorem c123_6 : mc_cd 123 6 = some (.iconst 0, 1) := by decide +kernel
theorem c123_7 : mc_cd 123 7 = some (.aload_n 1, 1) := by decide +kernel
theorem c123_8 : mc_cd 123 8 = some (.invokevirtual 42, 3) := by decide +kernel
theorem c123_11 : mc_cd 123 11 = some (.istore_n 3, 1) := by decide +kernel
theorem c123_12 : mc_cd 123 12 = some (.iconst 0, 1) := by decide +kernel
theorem c123_13 : mc_cd 123 13 = some (.istore 4, 2) := by decide +kernel
theorem c123_15 : mc_cd 123 15 = some (.iload 4, 2) := by decide +kernel
theorem c123_17 : mc_cd 123 17 = some (.sipush 400, 3) := by decide +kernel
theorem c123_20 : mc_cd 123 20 = some (.if_icmp .ge 40, 3) := by decide +kernel
theorem c123_23 : mc_cd 123 23 = some (.iload_n 3, 1) := by decide +kernel
theorem c123_24 : mc_cd 123 24 = some (.ifCond .lt 36, 3) := by decide +kernel
theorem c123_27 : mc_cd 123 27 = some (.aload_n 0, 1) := by decide +kernel
theorem c123_28 : mc_cd 123 28 = some (.getfield 9, 3) := by decide +kernel
theorem c123_31 : mc_cd 123 31 = some (.iload 4, 2) := by decide +kernel
theorem c123_33 : mc_cd 123 33 = some (.iload_n 3, 1) := by decide +kernel
theorem c123_34 : mc_cd 123 34 = some (.iastore, 1) := by decide +kernel
theorem c123_35 : mc_cd 123 35 = some (.aload_n 0, 1) := by decide +kernel
theorem c123_36 : mc_cd 123 36 = some (.dup, 1) := by decide +kernel
theorem c123_37 : mc_cd 123 37 = some (.getfield 28, 3) := by decide +kernel
theorem c123_40 : mc_cd 123 40 = some (.iconst 1, 1) := by decide +kernel
theorem c123_41 : mc_cd 123 41 = some (.iadd, 1) := by decide +kernel
theorem c123_42 : mc_cd 123 42 = some (.putfield 28, 3) := by decide +kernel
theorem c123_45 : mc_cd 123 45 = some (.aload_n 2, 1) := by decide +kernel
theorem c123_46 : mc_cd 123 46 = some (.iload_n 3, 1) := by decide +kernel
theorem c123_47 : mc_cd 123 47 = some (.iconst 1, 1) := by decide +kernel
theorem c123_48 : mc_cd 123 48 = some (.iadd, 1) := by decide +kernel
theorem c123_49 : mc_cd 123 49 = some (.aload_n 1, 1) := by decide +kernel
theorem c123_50 : mc_cd 123 50 = some (.invokevirtual 42, 3) := by decide +kernel
theorem c123_53 : mc_cd 123 53 = some (.istore_n 3, 1) := by decide +kernel
theorem c123_54 : mc_cd 123 54 = some (.iinc 4 1, 3) := by decide +kernel
theorem c123_57 : mc_cd 123 57 = some (.goto (-42), 3) := by decide +kernel
theorem c123_60 : mc_cd 123 60 = some (.return_, 1) := by decide +kernel
abbrev q_123 (r0 : Nat) (r1 : Nat) (r2 : Nat) (T : wq_T) (H : wq_H) : Option Value → wq_T → wq_H → Prop := fun r T' H' => T = T' ∧ WT T H' ∧ wfr [(20, 4), (21, 999)] T H H' ∧ none = r
set_option maxHeartbeats 4000000 in
theorem s_123 {kt : Nat → Option mc_E} {T : wq_T} {H : wq_H} {r0 : Nat} {r1 : Nat} {r2 : Nat} (hW : WT T H) (g0 : T.2.2.2 r0 = some 20) (g1 : T.2.2.2 r1 = some 27) (g2 : T.2.2.2 r2 = some 12) : wpc kt 3 123 [.ref r0, .ref r1, .ref r2] T H (q_123 r0 r1 r2 T H) := by
  refine wp_enter e123 (Nat.le_of_ble_eq_true rfl) rfl ?_
  have f0 : wfr [(20, 4), (21, 999)] T H H := wfr.rf
  show wp _ _ 123 0 [(0, .ref r0), (1, .ref r1), (2, .ref r2)] [] _ H _
  refine wp_of e123 c123_0 (rw_aload_n (pc' := 1) (v := .ref r0) rfl rfl rfl ?_)
  refine wp_of e123 c123_1 (rw_iconst (pc' := 2) rfl ?_)
  refine wp_of e123 c123_2 (xp_I (pc' := 5) lf_5_28 hW g0 sh_20 (by decide) (by decide) ty_20_4 rfl rfl (by omega) (by omega) ⟨by omega, by omega⟩ rfl (fun H36171 e36172 w36173 => ?_))
  have f36174 := f0.put' e36172 g0 rfl
  have k36175 : H36171 r0 4 = 0 := wq_u_s e36172
  refine wp_of e123 c123_5 (rw_aload_n (pc' := 6) (v := .ref r2) rfl rfl rfl ?_)
  refine wp_of e123 c123_6 (rw_iconst (pc' := 7) rfl ?_)
  refine wp_of e123 c123_7 (rw_aload_n (pc' := 8) (v := .ref r1) rfl rfl rfl ?_)
  refine wp_of e123 c123_8 (xc_V (pc' := 11) (r := r2) (as := [vI 0, .ref r1]) (st := []) (lm_5_42) rfl rfl (Nat.le_of_ble_eq_true rfl) w36173 g2 sh_12 (by decide) rfl (by decide) (s_124 w36173 g2 ⟨by omega, by omega⟩ g1) (fun R36176 T36177 H36178 p36179 => ?_))
  obtain ⟨e36180, e36182, z36183, e36181, b36184⟩ := p36179
  subst e36180
  subst e36181
  subst e36182
  show wp _ _ 123 11 [(0, .ref r0), (1, .ref r1), (2, .ref r2)] [vI z36183] _ H36171 _
  refine wp_of e123 c123_11 (rw_istore_n (pc' := 12) (z := z36183) (L' := [(3, vI z36183), (0, .ref r0), (1, .ref r1), (2, .ref r2)]) rfl rfl rfl ?_)
  refine wp_of e123 c123_12 (rw_iconst (pc' := 13) rfl ?_)
  refine wp_of e123 c123_13 (rw_istore (pc' := 15) (z := 0) (L' := [(4, vI 0), (3, vI z36183), (0, .ref r0), (1, .ref r1), (2, .ref r2)]) rfl rfl rfl ?_)
  have lp36386 : ∀ (n36387 : Nat) (v36389 : Int) (v36390 : Int) (H36391 : wq_H), WT T H36391 → wfr [(20, 4), (21, 999)] T H36171 H36391 → (0 ≤ v36389 ∧ v36389 ≤ 400) → ((-1) ≤ v36390 ∧ v36390 ≤ 19999) → (H36391 r0 4 ≤ v36389) → (400 - v36389).toNat = n36387 → wp kt 2 123 15 [(4, vI v36389), (3, vI v36390), (0, .ref r0), (1, .ref r1), (2, .ref r2)] [] T H36391 (q_123 r0 r1 r2 T H) := by
    intro n36387
    induction n36387 using Nat.strongRecOn with
    | _ n36387 ih36388 =>
      intro v36389 v36390 H36391 w36392 f36393 b36394 b36395 x36396 m36397
      have f36398 := f36174.tr f36393 rfl
      refine wp_of e123 c123_15 (rw_iload (pc' := 17) (z := v36389) rfl rfl ?_)
      refine wp_of e123 c123_17 (rw_sipush (pc' := 20) (z := 400) rfl (by decide) ?_)
      refine wp_of e123 c123_20 (rw_icmp_ge (p1 := 60) (p2 := 23) (by decide) rfl ⟨by omega, by omega⟩ ⟨by omega, by omega⟩ (fun c36399 => ?_) (fun c36399 => ?_))
      · exact wp_return e123 c123_60 rfl ⟨rfl, w36392, f36398, rfl⟩
      · refine wp_of e123 c123_23 (rw_iload_n (pc' := 24) (z := v36390) rfl rfl ?_)
        refine wp_of e123 c123_24 (rw_if_lt (p1 := 60) (p2 := 27) (by decide) rfl ⟨by omega, by omega⟩ (fun c36400 => ?_) (fun c36400 => ?_))
        · exact wp_return e123 c123_60 rfl ⟨rfl, w36392, f36398, rfl⟩
        · refine wp_of e123 c123_27 (rw_aload_n (pc' := 28) (v := .ref r0) rfl rfl rfl ?_)
          refine wp_of e123 c123_28 (xg_R (pc' := 31) lf_5_9 w36392 g0 sh_20 (by decide) (by decide) ty_20_0 rfl rfl (fun r36401 q36402 g36403 => ?_))
          refine wp_of e123 c123_31 (rw_iload (pc' := 33) (z := v36389) rfl rfl ?_)
          refine wp_of e123 c123_33 (rw_iload_n (pc' := 34) (z := v36390) rfl rfl ?_)
          refine wp_of e123 c123_34 (xs_I (pc' := 35) w36392 g36403 (by decide) sh_21 (by decide) (ty_21 _) (by omega) (by omega) ⟨by omega, by omega⟩ (by omega) (by omega) rfl (fun H36404 e36405 w36406 => ?_))
          have f36407 := f36398.put' e36405 g36403 rfl
          have f36408 := f36393.put' e36405 g36403 rfl
          refine wp_of e123 c123_35 (rw_aload_n (pc' := 36) (v := .ref r0) rfl rfl rfl ?_)
          refine wp_of e123 c123_36 (rw_dup (pc' := 37) rfl rfl ?_)
          have k36409 : H36404 r0 4 = H36391 r0 4 := (wq_u_t e36405 g36403 g0 rfl 4)
          refine wp_of e123 c123_37 (xg_I (pc' := 40) lf_5_28 w36406 g0 sh_20 (by decide) (by decide) ty_20_4 rfl rfl (fun b36410 b36411 => ?_))
          refine wp_of e123 c123_40 (rw_iconst (pc' := 41) rfl ?_)
          refine wp_of e123 c123_41 (rw_iadd (pc' := 42) rfl ?_)
          refine wp_of e123 c123_42 (xp_I (pc' := 45) lf_5_28 w36406 g0 sh_20 (by decide) (by decide) ty_20_4 rfl rfl (by omega) (by omega) ⟨by omega, by omega⟩ rfl (fun H36412 e36413 w36414 => ?_))
          have f36415 := f36407.put' e36413 g0 rfl
          have f36416 := f36408.put' e36413 g0 rfl
          have k36417 : H36412 r0 4 = (H36404 r0 4) + 1 := wq_u_s e36413
          refine wp_of e123 c123_45 (rw_aload_n (pc' := 46) (v := .ref r2) rfl rfl rfl ?_)
          refine wp_of e123 c123_46 (rw_iload_n (pc' := 47) (z := v36390) rfl rfl ?_)
          refine wp_of e123 c123_47 (rw_iconst (pc' := 48) rfl ?_)
          refine wp_of e123 c123_48 (rw_iadd (pc' := 49) rfl ?_)
          refine wp_of e123 c123_49 (rw_aload_n (pc' := 50) (v := .ref r1) rfl rfl rfl ?_)
          refine wp_of e123 c123_50 (xc_V (pc' := 53) (r := r2) (as := [vI (v36390 + 1), .ref r1]) (st := []) (lm_5_42) rfl rfl (Nat.le_of_ble_eq_true rfl) w36414 g2 sh_12 (by decide) rfl (by decide) (s_124 w36414 g2 ⟨by omega, by omega⟩ g1) (fun R36418 T36419 H36420 p36421 => ?_))
          obtain ⟨e36422, e36424, z36425, e36423, b36426⟩ := p36421
          subst e36422
          subst e36423
          subst e36424
          show wp _ _ 123 53 [(4, vI v36389), (3, vI v36390), (0, .ref r0), (1, .ref r1), (2, .ref r2)] [vI z36425] _ H36412 _
          refine wp_of e123 c123_53 (rw_istore_n (pc' := 54) (z := z36425) (L' := [(3, vI z36425), (4, vI v36389), (0, .ref r0), (1, .ref r1), (2, .ref r2)]) rfl rfl rfl ?_)
          refine wp_of e123 c123_54 (rw_iinc (pc' := 57) (z := v36389) (L' := [(4, vI (v36389 + 1)), (3, vI z36425), (0, .ref r0), (1, .ref r1), (2, .ref r2)]) rfl rfl rfl rfl ?_)
          refine wp_of e123 c123_57 (rw_goto (p1 := 15) (by decide) ?_)
          exact wp_lc (ks := [4, 3, 0, 1, 2]) (wl_c rfl (wl_c rfl (wl_c rfl (wl_c rfl (wl_c rfl wl_n))))) rfl (by decide) (ih36388 _ (by omega) (v36389 + 1) z36425 H36412 w36414 f36416 ⟨by omega, by omega⟩ ⟨by omega, by omega⟩ (by omega) rfl)
  exact wp_lc (ks := [4, 3, 0, 1, 2]) (wl_c rfl (wl_c rfl (wl_c rfl (wl_c rfl (wl_c rfl wl_n))))) rfl (by decide) (lp36386 _ 0 z36183 H36171 w36173 wfr.rf ⟨by omega, by omega⟩ ⟨by omega, by omega⟩ (by omega) rfl)
/-! java/lang/Integer.bitCount(I)I -/
theorem e126 : wq_en 126 = some (15, 1, false, some FieldType.int) := rfl
theorem c126_0 : mc_cd 126 0 = some (.iload_n 0, 1) := by decide +kernel
theorem c126_1 : mc_cd 126 1 = some (.iload_n 0, 1) := by decide +kernel
theorem c126_2 : mc_cd 126 2 = some (.iconst 1, 1) := by decide +kernel
theorem c126_3 : mc_cd 126 3 = some (.iushr, 1) := by decide +kernel
theorem c126_4 : mc_cd 126 4 = some (.ldc_w 265, 3) := by decide +kernel
theorem c126_7 : mc_cd 126 7 = some (.iand, 1) := by decide +kernel
theorem c126_8 : mc_cd 126 8 = some (.isub, 1) := by decide +kernel
theorem c126_9 : mc_cd 126 9 = some (.istore_n 0, 1) := by decide +kernel
theorem c126_10 : mc_cd 126 10 = some (.iload_n 0, 1) := by decide +kernel
theorem c126_11 : mc_cd 126 11 = some (.ldc_w 266, 3) := by decide +kernel
theorem c126_14 : mc_cd 126 14 = some (.iand, 1) := by decide +kernel
theorem c126_15 : mc_cd 126 15 = some (.iload_n 0, 1) := by decide +kernel
theorem c126_16 : mc_cd 126 16 = some (.iconst 2, 1) := by decide +kernel
theorem c126_17 : mc_cd 126 17 = some (.iushr, 1) := by decide +kernel
theorem c126_18 : mc_cd 126 18 = some (.ldc_w 266, 3) := by decide +kernel
theorem c126_21 : mc_cd 126 21 = some (.iand, 1) := by decide +kernel
theorem c126_22 : mc_cd 126 22 = some (.iadd, 1) := by decide +kernel
theorem c126_23 : mc_cd 126 23 = some (.istore_n 0, 1) := by decide +kernel
theorem c126_24 : mc_cd 126 24 = some (.iload_n 0, 1) := by decide +kernel
theorem c126_25 : mc_cd 126 25 = some (.iload_n 0, 1) := by decide +kernel
theorem c126_26 : mc_cd 126 26 = some (.iconst 4, 1) := by decide +kernel
theorem c126_27 : mc_cd 126 27 = some (.iushr, 1) := by decide +kernel
theorem c126_28 : mc_cd 126 28 = some (.iadd, 1) := by decide +kernel
theorem c126_29 : mc_cd 126 29 = some (.ldc_w 267, 3) := by decide +kernel
theorem c126_32 : mc_cd 126 32 = some (.iand, 1) := by decide +kernel
theorem c126_33 : mc_cd 126 33 = some (.istore_n 0, 1) := by decide +kernel
theorem c126_34 : mc_cd 126 34 = some (.iload_n 0, 1) := by decide +kernel
theorem c126_35 : mc_cd 126 35 = some (.iload_n 0, 1) := by decide +kernel
theorem c126_36 : mc_cd 126 36 = some (.bipush 8, 2) := by decide +kernel
theorem c126_38 : mc_cd 126 38 = some (.iushr, 1) := by decide +kernel
theorem c126_39 : mc_cd 126 39 = some (.iadd, 1) := by decide +kernel
theorem c126_40 : mc_cd 126 40 = some (.istore_n 0, 1) := by decide +kernel
theorem c126_41 : mc_cd 126 41 = some (.iload_n 0, 1) := by decide +kernel
theorem c126_42 : mc_cd 126 42 = some (.iload_n 0, 1) := by decide +kernel
theorem c126_43 : mc_cd 126 43 = some (.bipush 16, 2) := by decide +kernel
theorem c126_45 : mc_cd 126 45 = some (.iushr, 1) := by decide +kernel
theorem c126_46 : mc_cd 126 46 = some (.iadd, 1) := by decide +kernel
theorem c126_47 : mc_cd 126 47 = some (.istore_n 0, 1) := by decide +kernel
theorem c126_48 : mc_cd 126 48 = some (.iload_n 0, 1) := by decide +kernel
theorem c126_49 : mc_cd 126 49 = some (.bipush 63, 2) := by decide +kernel
theorem c126_51 : mc_cd 126 51 = some (.iand, 1) := by decide +kernel
theorem c126_52 : mc_cd 126 52 = some (.ireturn, 1) := by decide +kernel
abbrev q_126 (a0 : Int) (T : wq_T) (H : wq_H) : Option Value → wq_T → wq_H → Prop := fun r T' H' => T = T' ∧ H = H' ∧ ∃ z : Int, some (vI z) = r ∧ ((-2147483648) ≤ z ∧ z ≤ 2147483647)
set_option maxHeartbeats 4000000 in
theorem s_126 {kt : Nat → Option mc_E} {T : wq_T} {H : wq_H} {a0 : Int} (hW : WT T H) (i0 : (-2147483648) ≤ a0 ∧ a0 ≤ 2147483647) : wpc kt 1 126 [vI a0] T H (q_126 a0 T H) := by
  refine wp_enter e126 (Nat.le_of_ble_eq_true rfl) rfl ?_
  show wp _ _ 126 0 [(0, vI a0)] [] _ H _
  refine wp_of e126 c126_0 (rw_iload_n (pc' := 1) (z := a0) rfl rfl ?_)
  refine wp_of e126 c126_1 (rw_iload_n (pc' := 2) (z := a0) rfl rfl ?_)
  refine wp_of e126 c126_2 (rw_iconst (pc' := 3) rfl ?_)
  refine wp_of e126 c126_3 (rw_iushr (pc' := 4) rfl ?_)
  obtain ⟨v36455, e36456⟩ : ∃ x : Int, x = wq_ushr a0 1 := ⟨_, rfl⟩
  rw [← e36456]
  have b36457 : -2147483648 ≤ v36455 ∧ v36455 ≤ 2147483647 := by
    rw [e36456]
    exact wI_ushr _ _
  refine wp_of e126 c126_4 (rw_ldc_wI (pc' := 7) (z := 1431655765) rfl rfl rfl ?_)
  refine wp_of e126 c126_7 (rw_iand (pc' := 8) rfl ?_)
  obtain ⟨v36458, e36459⟩ : ∃ x : Int, x = wq_and v36455 1431655765 := ⟨_, rfl⟩
  rw [← e36459]
  have b36460 : 0 ≤ v36458 ∧ v36458 ≤ 1431655765 := by
    rw [e36459]
    exact wq_and_b _ (by omega) (by omega)
  refine wp_of e126 c126_8 (rw_isubw (pc' := 9) rfl ?_)
  obtain ⟨v36461, e36462⟩ : ∃ x : Int, x = wq_w (a0 - v36458) := ⟨_, rfl⟩
  rw [← e36462]
  have b36463 : -2147483648 ≤ v36461 ∧ v36461 ≤ 2147483647 := by
    rw [e36462]
    exact wI_w _
  refine wp_of e126 c126_9 (rw_istore_n (pc' := 10) (z := v36461) (L' := [(0, vI v36461)]) rfl rfl rfl ?_)
  refine wp_of e126 c126_10 (rw_iload_n (pc' := 11) (z := v36461) rfl rfl ?_)
  refine wp_of e126 c126_11 (rw_ldc_wI (pc' := 14) (z := 858993459) rfl rfl rfl ?_)
  refine wp_of e126 c126_14 (rw_iand (pc' := 15) rfl ?_)
  obtain ⟨v36464, e36465⟩ : ∃ x : Int, x = wq_and v36461 858993459 := ⟨_, rfl⟩
  rw [← e36465]
  have b36466 : 0 ≤ v36464 ∧ v36464 ≤ 858993459 := by
    rw [e36465]
    exact wq_and_b _ (by omega) (by omega)
  refine wp_of e126 c126_15 (rw_iload_n (pc' := 16) (z := v36461) rfl rfl ?_)
  refine wp_of e126 c126_16 (rw_iconst (pc' := 17) rfl ?_)
  refine wp_of e126 c126_17 (rw_iushr (pc' := 18) rfl ?_)
  obtain ⟨v36467, e36468⟩ : ∃ x : Int, x = wq_ushr v36461 2 := ⟨_, rfl⟩
  rw [← e36468]
  have b36469 : -2147483648 ≤ v36467 ∧ v36467 ≤ 2147483647 := by
    rw [e36468]
    exact wI_ushr _ _
  refine wp_of e126 c126_18 (rw_ldc_wI (pc' := 21) (z := 858993459) rfl rfl rfl ?_)
  refine wp_of e126 c126_21 (rw_iand (pc' := 22) rfl ?_)
  obtain ⟨v36470, e36471⟩ : ∃ x : Int, x = wq_and v36467 858993459 := ⟨_, rfl⟩
  rw [← e36471]
  have b36472 : 0 ≤ v36470 ∧ v36470 ≤ 858993459 := by
    rw [e36471]
    exact wq_and_b _ (by omega) (by omega)
  refine wp_of e126 c126_22 (rw_iadd (pc' := 23) rfl ?_)
  refine wp_of e126 c126_23 (rw_istore_n (pc' := 24) (z := v36464 + v36470) (L' := [(0, vI (v36464 + v36470))]) rfl rfl rfl ?_)
  refine wp_of e126 c126_24 (rw_iload_n (pc' := 25) (z := v36464 + v36470) rfl rfl ?_)
  refine wp_of e126 c126_25 (rw_iload_n (pc' := 26) (z := v36464 + v36470) rfl rfl ?_)
  refine wp_of e126 c126_26 (rw_iconst (pc' := 27) rfl ?_)
  refine wp_of e126 c126_27 (rw_iushr (pc' := 28) rfl ?_)
  obtain ⟨v36473, e36474⟩ : ∃ x : Int, x = wq_ushr (v36464 + v36470) 4 := ⟨_, rfl⟩
  rw [← e36474]
  have b36475 : -2147483648 ≤ v36473 ∧ v36473 ≤ 2147483647 := by
    rw [e36474]
    exact wI_ushr _ _
  refine wp_of e126 c126_28 (rw_iaddw (pc' := 29) rfl ?_)
  obtain ⟨v36476, e36477⟩ : ∃ x : Int, x = wq_w ((v36464 + v36470) + v36473) := ⟨_, rfl⟩
  rw [← e36477]
  have b36478 : -2147483648 ≤ v36476 ∧ v36476 ≤ 2147483647 := by
    rw [e36477]
    exact wI_w _
  refine wp_of e126 c126_29 (rw_ldc_wI (pc' := 32) (z := 252645135) rfl rfl rfl ?_)
  refine wp_of e126 c126_32 (rw_iand (pc' := 33) rfl ?_)
  obtain ⟨v36479, e36480⟩ : ∃ x : Int, x = wq_and v36476 252645135 := ⟨_, rfl⟩
  rw [← e36480]
  have b36481 : 0 ≤ v36479 ∧ v36479 ≤ 252645135 := by
    rw [e36480]
    exact wq_and_b _ (by omega) (by omega)
  refine wp_of e126 c126_33 (rw_istore_n (pc' := 34) (z := v36479) (L' := [(0, vI v36479)]) rfl rfl rfl ?_)
  refine wp_of e126 c126_34 (rw_iload_n (pc' := 35) (z := v36479) rfl rfl ?_)
  refine wp_of e126 c126_35 (rw_iload_n (pc' := 36) (z := v36479) rfl rfl ?_)
  refine wp_of e126 c126_36 (rw_bipush (pc' := 38) (z := 8) rfl (by decide) ?_)
  refine wp_of e126 c126_38 (rw_iushr (pc' := 39) rfl ?_)
  obtain ⟨v36482, e36483⟩ : ∃ x : Int, x = wq_ushr v36479 8 := ⟨_, rfl⟩
  rw [← e36483]
  have b36484 : -2147483648 ≤ v36482 ∧ v36482 ≤ 2147483647 := by
    rw [e36483]
    exact wI_ushr _ _
  refine wp_of e126 c126_39 (rw_iaddw (pc' := 40) rfl ?_)
  obtain ⟨v36485, e36486⟩ : ∃ x : Int, x = wq_w (v36479 + v36482) := ⟨_, rfl⟩
  rw [← e36486]
  have b36487 : -2147483648 ≤ v36485 ∧ v36485 ≤ 2147483647 := by
    rw [e36486]
    exact wI_w _
  refine wp_of e126 c126_40 (rw_istore_n (pc' := 41) (z := v36485) (L' := [(0, vI v36485)]) rfl rfl rfl ?_)
  refine wp_of e126 c126_41 (rw_iload_n (pc' := 42) (z := v36485) rfl rfl ?_)
  refine wp_of e126 c126_42 (rw_iload_n (pc' := 43) (z := v36485) rfl rfl ?_)
  refine wp_of e126 c126_43 (rw_bipush (pc' := 45) (z := 16) rfl (by decide) ?_)
  refine wp_of e126 c126_45 (rw_iushr (pc' := 46) rfl ?_)
  obtain ⟨v36488, e36489⟩ : ∃ x : Int, x = wq_ushr v36485 16 := ⟨_, rfl⟩
  rw [← e36489]
  have b36490 : -2147483648 ≤ v36488 ∧ v36488 ≤ 2147483647 := by
    rw [e36489]
    exact wI_ushr _ _
  refine wp_of e126 c126_46 (rw_iaddw (pc' := 47) rfl ?_)
  obtain ⟨v36491, e36492⟩ : ∃ x : Int, x = wq_w (v36485 + v36488) := ⟨_, rfl⟩
  rw [← e36492]
  have b36493 : -2147483648 ≤ v36491 ∧ v36491 ≤ 2147483647 := by
    rw [e36492]
    exact wI_w _
  refine wp_of e126 c126_47 (rw_istore_n (pc' := 48) (z := v36491) (L' := [(0, vI v36491)]) rfl rfl rfl ?_)
  refine wp_of e126 c126_48 (rw_iload_n (pc' := 49) (z := v36491) rfl rfl ?_)
  refine wp_of e126 c126_49 (rw_bipush (pc' := 51) (z := 63) rfl (by decide) ?_)
  refine wp_of e126 c126_51 (rw_iand (pc' := 52) rfl ?_)
  obtain ⟨v36494, e36495⟩ : ∃ x : Int, x = wq_and v36491 63 := ⟨_, rfl⟩
  rw [← e36495]
  have b36496 : 0 ≤ v36494 ∧ v36494 ≤ 63 := by
    rw [e36495]
    exact wq_and_b _ (by omega) (by omega)
  exact wp_ireturn e126 c126_52 rfl ⟨rfl, rfl, v36494, rfl, ⟨by omega, by omega⟩⟩
/-! StrikeAwake$Asking.lookOf(LStrikeAwake$Parish;II)I -/
theorem e128 : wq_en 128 = some (5, 5, false, some FieldType.int) := rfl
theorem c128_0 : mc_cd 128 0 = some (.iconst 0, 1) := by decide +kernel
theorem c128_1 : mc_cd 128 1 = some (.istore_n 3, 1) := by decide +kernel
theorem c128_2 : mc_cd 128 2 = some (.iconst 0, 1) := by decide +kernel
theorem c128_3 : mc_cd 128 3 = some (.istore 4, 2) := by decide +kernel
theorem c128_5 : mc_cd 128 5 = some (.iload 4, 2) := by decide +kernel
theorem c128_7 : mc_cd 128 7 = some (.aload_n 0, 1) := by decide +kernel
theorem c128_8 : mc_cd 128 8 = some (.getfield 46, 3) := by decide +kernel
theorem c128_11 : mc_cd 128 11 = some (.if_icmp .ge 39, 3) := by decide +kernel
theorem c128_14 : mc_cd 128 14 = some (.iload_n 2, 1) := by decide +kernel
theorem c128_15 : mc_cd 128 15 = some (.iload 4, 2) := by decide +kernel
theorem c128_17 : mc_cd 128 17 = some (.invokestatic 67, 3) := by decide +kernel
theorem c128_20 : mc_cd 128 20 = some (.ifCond .eq 24, 3) := by decide +kernel
theorem c128_23 : mc_cd 128 23 = some (.iload_n 3, 1) := by decide +kernel
theorem c128_24 : mc_cd 128 24 = some (.aload_n 0, 1) := by decide +kernel
theorem c128_25 : mc_cd 128 25 = some (.iload_n 1, 1) := by decide +kernel
theorem c128_26 : mc_cd 128 26 = some (.iload 4, 2) := by decide +kernel
theorem c128_28 : mc_cd 128 28 = some (.invokevirtual 71, 3) := by decide +kernel
theorem c128_31 : mc_cd 128 31 = some (.aload_n 0, 1) := by decide +kernel
theorem c128_32 : mc_cd 128 32 = some (.getfield 75, 3) := by decide +kernel
theorem c128_35 : mc_cd 128 35 = some (.iload 4, 2) := by decide +kernel
theorem c128_37 : mc_cd 128 37 = some (.aaload, 1) := by decide +kernel
theorem c128_38 : mc_cd 128 38 = some (.getfield 79, 3) := by decide +kernel
theorem c128_41 : mc_cd 128 41 = some (.imul, 1) := by decide +kernel
theorem c128_42 : mc_cd 128 42 = some (.iadd, 1) := by decide +kernel
theorem c128_43 : mc_cd 128 43 = some (.istore_n 3, 1) := by decide +kernel
theorem c128_44 : mc_cd 128 44 = some (.iinc 4 1, 3) := by decide +kernel
theorem c128_47 : mc_cd 128 47 = some (.goto (-42), 3) := by decide +kernel
theorem c128_50 : mc_cd 128 50 = some (.iload_n 3, 1) := by decide +kernel
theorem c128_51 : mc_cd 128 51 = some (.ireturn, 1) := by decide +kernel
abbrev q_128 (r0 : Nat) (a1 : Int) (a2 : Int) (T : wq_T) (H : wq_H) : Option Value → wq_T → wq_H → Prop := fun r T' H' => T = T' ∧ H = H' ∧ ∃ z : Int, some (vI z) = r ∧ ((-2147483648) ≤ z ∧ z ≤ 2147483647)
set_option maxHeartbeats 4000000 in
theorem s_128 {kt : Nat → Option mc_E} {T : wq_T} {H : wq_H} {r0 : Nat} {a1 : Int} {a2 : Int} (hW : WT T H) (g0 : T.2.2.2 r0 = some 27) (i1 : 0 ≤ a1 ∧ a1 ≤ 19999) (i2 : (-2147483648) ≤ a2 ∧ a2 ≤ 2147483647) : wpc kt 2 128 [.ref r0, vI a1, vI a2] T H (q_128 r0 a1 a2 T H) := by
  refine wp_enter e128 (Nat.le_of_ble_eq_true rfl) rfl ?_
  show wp _ _ 128 0 [(0, .ref r0), (1, vI a1), (2, vI a2)] [] _ H _
  refine wp_of e128 c128_0 (rw_iconst (pc' := 1) rfl ?_)
  refine wp_of e128 c128_1 (rw_istore_n (pc' := 2) (z := 0) (L' := [(3, vI 0), (0, .ref r0), (1, vI a1), (2, vI a2)]) rfl rfl rfl ?_)
  refine wp_of e128 c128_2 (rw_iconst (pc' := 3) rfl ?_)
  refine wp_of e128 c128_3 (rw_istore (pc' := 5) (z := 0) (L' := [(4, vI 0), (3, vI 0), (0, .ref r0), (1, vI a1), (2, vI a2)]) rfl rfl rfl ?_)
  have lp37004 : ∀ (n37005 : Nat) (v37007 : Int) (v37008 : Int), (0 ≤ v37007 ∧ v37007 ≤ 6) → ((-2147483648) ≤ v37008 ∧ v37008 ≤ 2147483647) → (6 - v37007).toNat = n37005 → wp kt 1 128 5 [(4, vI v37007), (3, vI v37008), (0, .ref r0), (1, vI a1), (2, vI a2)] [] T H (q_128 r0 a1 a2 T H) := by
    intro n37005
    induction n37005 using Nat.strongRecOn with
    | _ n37005 ih37006 =>
      intro v37007 v37008 b37011 b37012 m37013
      refine wp_of e128 c128_5 (rw_iload (pc' := 7) (z := v37007) rfl rfl ?_)
      refine wp_of e128 c128_7 (rw_aload_n (pc' := 8) (v := .ref r0) rfl rfl rfl ?_)
      refine wp_of e128 c128_8 (xg_I (pc' := 11) lf_5_46 hW g0 sh_27 (by decide) (by decide) ty_27_10 rfl rfl (fun b37014 b37015 => ?_))
      refine wp_of e128 c128_11 (rw_icmp_ge (p1 := 50) (p2 := 14) (by decide) rfl ⟨by omega, by omega⟩ ⟨by omega, by omega⟩ (fun c37016 => ?_) (fun c37016 => ?_))
      · refine wp_of e128 c128_50 (rw_iload_n (pc' := 51) (z := v37008) rfl rfl ?_)
        exact wp_ireturn e128 c128_51 rfl ⟨rfl, rfl, v37008, rfl, ⟨by omega, by omega⟩⟩
      · refine wp_of e128 c128_14 (rw_iload_n (pc' := 15) (z := a2) rfl rfl ?_)
        refine wp_of e128 c128_15 (rw_iload (pc' := 17) (z := v37007) rfl rfl ?_)
        refine wp_of e128 c128_17 (xc_S (pc' := 20) (as := [vI a2, vI v37007]) (st := []) (lm_5_67) rfl rfl (Nat.le_of_ble_eq_true rfl) rfl (by decide) (s_36 hW ⟨by omega, by omega⟩ ⟨by omega, by omega⟩) (fun R37017 T37018 H37019 p37020 => ?_))
        obtain ⟨e37021, e37023, z37024, e37022, b37025⟩ := p37020
        subst e37021
        subst e37022
        subst e37023
        show wp _ _ 128 20 [(4, vI v37007), (3, vI v37008), (0, .ref r0), (1, vI a1), (2, vI a2)] [vI z37024] _ H _
        refine wp_of e128 c128_20 (rw_if_eq (p1 := 44) (p2 := 23) (by decide) rfl ⟨by omega, by omega⟩ (fun c37026 => ?_) (fun c37026 => ?_))
        · refine wp_of e128 c128_44 (rw_iinc (pc' := 47) (z := v37007) (L' := [(4, vI (v37007 + 1)), (3, vI v37008), (0, .ref r0), (1, vI a1), (2, vI a2)]) rfl rfl rfl rfl ?_)
          refine wp_of e128 c128_47 (rw_goto (p1 := 5) (by decide) ?_)
          exact wp_lc (ks := [4, 3, 0, 1, 2]) (wl_c rfl (wl_c rfl (wl_c rfl (wl_c rfl (wl_c rfl wl_n))))) rfl (by decide) (ih37006 _ (by omega) (v37007 + 1) v37008 ⟨by omega, by omega⟩ ⟨by omega, by omega⟩ rfl)
        · refine wp_of e128 c128_23 (rw_iload_n (pc' := 24) (z := v37008) rfl rfl ?_)
          refine wp_of e128 c128_24 (rw_aload_n (pc' := 25) (v := .ref r0) rfl rfl rfl ?_)
          refine wp_of e128 c128_25 (rw_iload_n (pc' := 26) (z := a1) rfl rfl ?_)
          refine wp_of e128 c128_26 (rw_iload (pc' := 28) (z := v37007) rfl rfl ?_)
          refine wp_of e128 c128_28 (xc_V (pc' := 31) (r := r0) (as := [vI a1, vI v37007]) (st := [vI v37008]) (lm_5_71) rfl rfl (Nat.le_of_ble_eq_true rfl) hW g0 sh_27 (by decide) rfl (by decide) (s_96 hW g0 ⟨by omega, by omega⟩ ⟨by omega, by omega⟩) (fun R37027 T37028 H37029 p37030 => ?_))
          obtain ⟨e37031, e37033, z37034, e37032, b37035⟩ := p37030
          subst e37031
          subst e37032
          subst e37033
          show wp _ _ 128 31 [(4, vI v37007), (3, vI v37008), (0, .ref r0), (1, vI a1), (2, vI a2)] [vI z37034, vI v37008] _ H _
          refine wp_of e128 c128_31 (rw_aload_n (pc' := 32) (v := .ref r0) rfl rfl rfl ?_)
          refine wp_of e128 c128_32 (xg_R (pc' := 35) lf_5_75 hW g0 sh_27 (by decide) (by decide) ty_27_0 rfl rfl (fun r37036 q37037 g37038 => ?_))
          refine wp_of e128 c128_35 (rw_iload (pc' := 37) (z := v37007) rfl rfl ?_)
          refine wp_of e128 c128_37 (xa_R (pc' := 38) (by decide) hW g37038 sh_28 (by decide) (ty_28 _) (by omega) (by omega) rfl (fun r37039 q37040 g37041 => ?_))
          refine wp_of e128 c128_38 (xg_I (pc' := 41) lf_5_79 hW g37041 sh_35 (by decide) (by decide) ty_35_17 rfl rfl (fun b37042 b37043 => ?_))
          refine wp_of e128 c128_41 (rw_imulw (pc' := 42) rfl ?_)
          obtain ⟨v37044, e37045⟩ : ∃ x : Int, x = wq_w (z37034 * (H r37039 17)) := ⟨_, rfl⟩
          rw [← e37045]
          have b37046 : -2147483648 ≤ v37044 ∧ v37044 ≤ 2147483647 := by
            rw [e37045]
            exact wI_w _
          refine wp_of e128 c128_42 (rw_iaddw (pc' := 43) rfl ?_)
          obtain ⟨v37047, e37048⟩ : ∃ x : Int, x = wq_w (v37008 + v37044) := ⟨_, rfl⟩
          rw [← e37048]
          have b37049 : -2147483648 ≤ v37047 ∧ v37047 ≤ 2147483647 := by
            rw [e37048]
            exact wI_w _
          refine wp_of e128 c128_43 (rw_istore_n (pc' := 44) (z := v37047) (L' := [(3, vI v37047), (4, vI v37007), (0, .ref r0), (1, vI a1), (2, vI a2)]) rfl rfl rfl ?_)
          refine wp_of e128 c128_44 (rw_iinc (pc' := 47) (z := v37007) (L' := [(4, vI (v37007 + 1)), (3, vI v37047), (0, .ref r0), (1, vI a1), (2, vI a2)]) rfl rfl rfl rfl ?_)
          refine wp_of e128 c128_47 (rw_goto (p1 := 5) (by decide) ?_)
          exact wp_lc (ks := [4, 3, 0, 1, 2]) (wl_c rfl (wl_c rfl (wl_c rfl (wl_c rfl (wl_c rfl wl_n))))) rfl (by decide) (ih37006 _ (by omega) (v37007 + 1) v37047 ⟨by omega, by omega⟩ ⟨by omega, by omega⟩ rfl)
  exact wp_lc (ks := [4, 3, 0, 1, 2]) (wl_c rfl (wl_c rfl (wl_c rfl (wl_c rfl (wl_c rfl wl_n))))) rfl (by decide) (lp37004 _ 0 0 ⟨by omega, by omega⟩ ⟨by omega, by omega⟩ rfl)
/-! StrikeAwake$Asking.slotOf(I)I -/
theorem e129 : wq_en 129 = some (5, 4, false, some FieldType.int) := rfl
theorem c129_0 : mc_cd 129 0 = some (.iload_n 1, 1) := by decide +kernel
theorem c129_1 : mc_cd 129 1 = some (.sipush 1023, 3) := by decide +kernel
theorem c129_4 : mc_cd 129 4 = some (.iand, 1) := by decide +kernel
theorem c129_5 : mc_cd 129 5 = some (.istore_n 2, 1) := by decide +kernel
theorem c129_6 : mc_cd 129 6 = some (.iconst 0, 1) := by decide +kernel
theorem c129_7 : mc_cd 129 7 = some (.istore_n 3, 1) := by decide +kernel
theorem c129_8 : mc_cd 129 8 = some (.iload_n 3, 1) := by decide +kernel
theorem c129_9 : mc_cd 129 9 = some (.sipush 1024, 3) := by decide +kernel
theorem c129_12 : mc_cd 129 12 = some (.if_icmp .ge 43, 3) := by decide +kernel
theorem c129_15 : mc_cd 129 15 = some (.aload_n 0, 1) := by decide +kernel
theorem c129_16 : mc_cd 129 16 = some (.getfield 21, 3) := by decide +kernel
theorem c129_19 : mc_cd 129 19 = some (.iload_n 2, 1) := by decide +kernel
theorem c129_20 : mc_cd 129 20 = some (.iaload, 1) := by decide +kernel
theorem c129_21 : mc_cd 129 21 = some (.ifCond .lt 18, 3) := by decide +kernel
theorem c129_24 : mc_cd 129 24 = some (.aload_n 0, 1) := by decide +kernel
theorem c129_25 : mc_cd 129 25 = some (.getfield 18, 3) := by decide +kernel
theorem c129_28 : mc_cd 129 28 = some (.aload_n 0, 1) := by decide +kernel
theorem c129_29 : mc_cd 129 29 = some (.getfield 21, 3) := by decide +kernel
theorem c129_32 : mc_cd 129 32 = some (.iload_n 2, 1) := by decide +kernel
theorem c129_33 : mc_cd 129 33 = some (.iaload, 1) := by decide +kernel
theorem c129_34 : mc_cd 129 34 = some (.iaload, 1) := by decide +kernel
theorem c129_35 : mc_cd 129 35 = some (.iload_n 1, 1) := by decide +kernel
theorem c129_36 : mc_cd 129 36 = some (.if_icmp .ne 5, 3) := by decide +kernel
theorem c129_39 : mc_cd 129 39 = some (.iload_n 2, 1) := by decide +kernel
theorem c129_40 : mc_cd 129 40 = some (.ireturn, 1) := by decide +kernel
theorem c129_41 : mc_cd 129 41 = some (.iload_n 2, 1) := by decide +kernel
theorem c129_42 : mc_cd 129 42 = some (.iconst 1, 1) := by decide +kernel
theorem c129_43 : mc_cd 129 43 = some (.iadd, 1) := by decide +kernel
theorem c129_44 : mc_cd 129 44 = some (.sipush 1023, 3) := by decide +kernel
theorem c129_47 : mc_cd 129 47 = some (.iand, 1) := by decide +kernel
theorem c129_48 : mc_cd 129 48 = some (.istore_n 2, 1) := by decide +kernel
theorem c129_49 : mc_cd 129 49 = some (.iinc 3 1, 3) := by decide +kernel
theorem c129_52 : mc_cd 129 52 = some (.goto (-44), 3) := by decide +kernel
theorem c129_55 : mc_cd 129 55 = some (.iload_n 2, 1) := by decide +kernel
theorem c129_56 : mc_cd 129 56 = some (.ireturn, 1) := by decide +kernel
abbrev q_129 (r0 : Nat) (a1 : Int) (T : wq_T) (H : wq_H) : Option Value → wq_T → wq_H → Prop := fun r T' H' => T = T' ∧ H = H' ∧ ∃ z : Int, some (vI z) = r ∧ (0 ≤ z ∧ z ≤ 1023)
set_option maxHeartbeats 4000000 in
theorem s_129 {kt : Nat → Option mc_E} {T : wq_T} {H : wq_H} {r0 : Nat} {a1 : Int} (hW : WT T H) (g0 : T.2.2.2 r0 = some 20) (i1 : (-2147483648) ≤ a1 ∧ a1 ≤ 2147483647) : wpc kt 1 129 [.ref r0, vI a1] T H (q_129 r0 a1 T H) := by
  refine wp_enter e129 (Nat.le_of_ble_eq_true rfl) rfl ?_
  show wp _ _ 129 0 [(0, .ref r0), (1, vI a1)] [] _ H _
  refine wp_of e129 c129_0 (rw_iload_n (pc' := 1) (z := a1) rfl rfl ?_)
  refine wp_of e129 c129_1 (rw_sipush (pc' := 4) (z := 1023) rfl (by decide) ?_)
  refine wp_of e129 c129_4 (rw_iand (pc' := 5) rfl ?_)
  obtain ⟨v37206, e37207⟩ : ∃ x : Int, x = wq_and a1 1023 := ⟨_, rfl⟩
  rw [← e37207]
  have b37208 : 0 ≤ v37206 ∧ v37206 ≤ 1023 := by
    rw [e37207]
    exact wq_and_b _ (by omega) (by omega)
  refine wp_of e129 c129_5 (rw_istore_n (pc' := 6) (z := v37206) (L' := [(2, vI v37206), (0, .ref r0), (1, vI a1)]) rfl rfl rfl ?_)
  refine wp_of e129 c129_6 (rw_iconst (pc' := 7) rfl ?_)
  refine wp_of e129 c129_7 (rw_istore_n (pc' := 8) (z := 0) (L' := [(3, vI 0), (2, vI v37206), (0, .ref r0), (1, vI a1)]) rfl rfl rfl ?_)
  have lp37345 : ∀ (n37346 : Nat) (v37348 : Int) (v37349 : Int), (0 ≤ v37348 ∧ v37348 ≤ 1024) → (0 ≤ v37349 ∧ v37349 ≤ 1023) → (1024 - v37348).toNat = n37346 → wp kt 0 129 8 [(3, vI v37348), (2, vI v37349), (0, .ref r0), (1, vI a1)] [] T H (q_129 r0 a1 T H) := by
    intro n37346
    induction n37346 using Nat.strongRecOn with
    | _ n37346 ih37347 =>
      intro v37348 v37349 b37352 b37353 m37354
      refine wp_of e129 c129_8 (rw_iload_n (pc' := 9) (z := v37348) rfl rfl ?_)
      refine wp_of e129 c129_9 (rw_sipush (pc' := 12) (z := 1024) rfl (by decide) ?_)
      refine wp_of e129 c129_12 (rw_icmp_ge (p1 := 55) (p2 := 15) (by decide) rfl ⟨by omega, by omega⟩ ⟨by omega, by omega⟩ (fun c37355 => ?_) (fun c37355 => ?_))
      · refine wp_of e129 c129_55 (rw_iload_n (pc' := 56) (z := v37349) rfl rfl ?_)
        exact wp_ireturn e129 c129_56 rfl ⟨rfl, rfl, v37349, rfl, ⟨by omega, by omega⟩⟩
      · refine wp_of e129 c129_15 (rw_aload_n (pc' := 16) (v := .ref r0) rfl rfl rfl ?_)
        refine wp_of e129 c129_16 (xg_R (pc' := 19) lf_5_21 hW g0 sh_20 (by decide) (by decide) ty_20_3 rfl rfl (fun r37356 q37357 g37358 => ?_))
        refine wp_of e129 c129_19 (rw_iload_n (pc' := 20) (z := v37349) rfl rfl ?_)
        refine wp_of e129 c129_20 (xa_I (so := 0) (pc' := 21) hW g37358 sh_24 (by decide) (ty_24 _) (by omega) (by omega) rfl (fun b37359 b37360 => ?_))
        refine wp_of e129 c129_21 (rw_if_lt (p1 := 39) (p2 := 24) (by decide) rfl ⟨by omega, by omega⟩ (fun c37361 => ?_) (fun c37361 => ?_))
        · refine wp_of e129 c129_39 (rw_iload_n (pc' := 40) (z := v37349) rfl rfl ?_)
          exact wp_ireturn e129 c129_40 rfl ⟨rfl, rfl, v37349, rfl, ⟨by omega, by omega⟩⟩
        · refine wp_of e129 c129_24 (rw_aload_n (pc' := 25) (v := .ref r0) rfl rfl rfl ?_)
          refine wp_of e129 c129_25 (xg_R (pc' := 28) lf_5_18 hW g0 sh_20 (by decide) (by decide) ty_20_2 rfl rfl (fun r37362 q37363 g37364 => ?_))
          refine wp_of e129 c129_28 (rw_aload_n (pc' := 29) (v := .ref r0) rfl rfl rfl ?_)
          refine wp_of e129 c129_29 (xg_K (pc' := 32) lf_5_21 hW g0 sh_20 (by decide) (by decide) rfl q37357 rfl ?_)
          refine wp_of e129 c129_32 (rw_iload_n (pc' := 33) (z := v37349) rfl rfl ?_)
          refine wp_of e129 c129_33 (xa_I (so := 0) (pc' := 34) hW g37358 sh_24 (by decide) (ty_24 _) (by omega) (by omega) rfl (fun b37365 b37366 => ?_))
          refine wp_of e129 c129_34 (xa_I (so := 0) (pc' := 35) hW g37364 sh_23 (by decide) (ty_23 _) (by omega) (by omega) rfl (fun b37367 b37368 => ?_))
          refine wp_of e129 c129_35 (rw_iload_n (pc' := 36) (z := a1) rfl rfl ?_)
          refine wp_of e129 c129_36 (rw_icmp_ne (p1 := 41) (p2 := 39) (by decide) rfl ⟨by omega, by omega⟩ ⟨by omega, by omega⟩ (fun c37369 => ?_) (fun c37369 => ?_))
          · refine wp_of e129 c129_41 (rw_iload_n (pc' := 42) (z := v37349) rfl rfl ?_)
            refine wp_of e129 c129_42 (rw_iconst (pc' := 43) rfl ?_)
            refine wp_of e129 c129_43 (rw_iadd (pc' := 44) rfl ?_)
            refine wp_of e129 c129_44 (rw_sipush (pc' := 47) (z := 1023) rfl (by decide) ?_)
            refine wp_of e129 c129_47 (rw_iand (pc' := 48) rfl ?_)
            obtain ⟨v37370, e37371⟩ : ∃ x : Int, x = wq_and (v37349 + 1) 1023 := ⟨_, rfl⟩
            rw [← e37371]
            have b37372 : 0 ≤ v37370 ∧ v37370 ≤ 1023 := by
              rw [e37371]
              exact wq_and_b _ (by omega) (by omega)
            refine wp_of e129 c129_48 (rw_istore_n (pc' := 49) (z := v37370) (L' := [(2, vI v37370), (3, vI v37348), (0, .ref r0), (1, vI a1)]) rfl rfl rfl ?_)
            refine wp_of e129 c129_49 (rw_iinc (pc' := 52) (z := v37348) (L' := [(3, vI (v37348 + 1)), (2, vI v37370), (0, .ref r0), (1, vI a1)]) rfl rfl rfl rfl ?_)
            refine wp_of e129 c129_52 (rw_goto (p1 := 8) (by decide) ?_)
            exact wp_lc (ks := [3, 2, 0, 1]) (wl_c rfl (wl_c rfl (wl_c rfl (wl_c rfl wl_n)))) rfl (by decide) (ih37347 _ (by omega) (v37348 + 1) v37370 ⟨by omega, by omega⟩ ⟨by omega, by omega⟩ rfl)
          · refine wp_of e129 c129_39 (rw_iload_n (pc' := 40) (z := v37349) rfl rfl ?_)
            exact wp_ireturn e129 c129_40 rfl ⟨rfl, rfl, v37349, rfl, ⟨by omega, by omega⟩⟩
  exact wp_lc (ks := [3, 2, 0, 1]) (wl_c rfl (wl_c rfl (wl_c rfl (wl_c rfl wl_n)))) rfl (by decide) (lp37345 _ 0 v37206 ⟨by omega, by omega⟩ ⟨by omega, by omega⟩ rfl)
/-! StrikeAwake$Asking.tells(LStrikeAwake$Parish;I)Z -/
theorem e127 : wq_en 127 = some (5, 5, false, some FieldType.boolean) := rfl
theorem c127_0 : mc_cd 127 0 = some (.iconst 0, 1) := by decide +kernel
theorem c127_1 : mc_cd 127 1 = some (.istore_n 3, 1) := by decide +kernel
theorem c127_2 : mc_cd 127 2 = some (.iload_n 3, 1) := by decide +kernel
theorem c127_3 : mc_cd 127 3 = some (.sipush 1024, 3) := by decide +kernel
theorem c127_6 : mc_cd 127 6 = some (.if_icmp .ge 16, 3) := by decide +kernel
theorem c127_9 : mc_cd 127 9 = some (.aload_n 0, 1) := by decide +kernel
theorem c127_10 : mc_cd 127 10 = some (.getfield 21, 3) := by decide +kernel
theorem c127_13 : mc_cd 127 13 = some (.iload_n 3, 1) := by decide +kernel
theorem c127_14 : mc_cd 127 14 = some (.iconst (-1), 1) := by decide +kernel
theorem c127_15 : mc_cd 127 15 = some (.iastore, 1) := by decide +kernel
theorem c127_16 : mc_cd 127 16 = some (.iinc 3 1, 3) := by decide +kernel
theorem c127_19 : mc_cd 127 19 = some (.goto (-17), 3) := by decide +kernel
theorem c127_22 : mc_cd 127 22 = some (.iconst 0, 1) := by decide +kernel
theorem c127_23 : mc_cd 127 23 = some (.istore_n 3, 1) := by decide +kernel
theorem c127_24 : mc_cd 127 24 = some (.iload_n 3, 1) := by decide +kernel
theorem c127_25 : mc_cd 127 25 = some (.aload_n 0, 1) := by decide +kernel
theorem c127_26 : mc_cd 127 26 = some (.getfield 28, 3) := by decide +kernel
theorem c127_29 : mc_cd 127 29 = some (.if_icmp .ge 82, 3) := by decide +kernel
theorem c127_32 : mc_cd 127 32 = some (.aload_n 0, 1) := by decide +kernel
theorem c127_33 : mc_cd 127 33 = some (.getfield 18, 3) := by decide +kernel
theorem c127_36 : mc_cd 127 36 = some (.iload_n 3, 1) := by decide +kernel
theorem c127_37 : mc_cd 127 37 = some (.aload_n 1, 1) := by decide +kernel
theorem c127_38 : mc_cd 127 38 = some (.aload_n 0, 1) := by decide +kernel
theorem c127_39 : mc_cd 127 39 = some (.getfield 9, 3) := by decide +kernel
theorem c127_42 : mc_cd 127 42 = some (.iload_n 3, 1) := by decide +kernel
theorem c127_43 : mc_cd 127 43 = some (.iaload, 1) := by decide +kernel
theorem c127_44 : mc_cd 127 44 = some (.iload_n 2, 1) := by decide +kernel
theorem c127_45 : mc_cd 127 45 = some (.invokestatic 61, 3) := by decide +kernel
theorem c127_48 : mc_cd 127 48 = some (.iastore, 1) := by decide +kernel
theorem c127_49 : mc_cd 127 49 = some (.aload_n 0, 1) := by decide +kernel
theorem c127_50 : mc_cd 127 50 = some (.aload_n 0, 1) := by decide +kernel
theorem c127_51 : mc_cd 127 51 = some (.getfield 18, 3) := by decide +kernel
theorem c127_54 : mc_cd 127 54 = some (.iload_n 3, 1) := by decide +kernel
theorem c127_55 : mc_cd 127 55 = some (.iaload, 1) := by decide +kernel
theorem c127_56 : mc_cd 127 56 = some (.invokevirtual 64, 3) := by decide +kernel
theorem c127_59 : mc_cd 127 59 = some (.istore 4, 2) := by decide +kernel
theorem c127_61 : mc_cd 127 61 = some (.aload_n 0, 1) := by decide +kernel
theorem c127_62 : mc_cd 127 62 = some (.getfield 21, 3) := by decide +kernel
theorem c127_65 : mc_cd 127 65 = some (.iload 4, 2) := by decide +kernel
theorem c127_67 : mc_cd 127 67 = some (.iaload, 1) := by decide +kernel
theorem c127_68 : mc_cd 127 68 = some (.ifCond .ge 14, 3) := by decide +kernel
theorem c127_71 : mc_cd 127 71 = some (.aload_n 0, 1) := by decide +kernel
theorem c127_72 : mc_cd 127 72 = some (.getfield 21, 3) := by decide +kernel
theorem c127_75 : mc_cd 127 75 = some (.iload 4, 2) := by decide +kernel
theorem c127_77 : mc_cd 127 77 = some (.iload_n 3, 1) := by decide +kernel
theorem c127_78 : mc_cd 127 78 = some (.iastore, 1) := by decide +kernel
theorem c127_79 : mc_cd 127 79 = some (.goto 26, 3) := by decide +kernel
theorem c127_82 : mc_cd 127 82 = some (.aload_n 0, 1) := by decide +kernel
theorem c127_83 : mc_cd 127 83 = some (.getfield 15, 3) := by decide +kernel
theorem c127_86 : mc_cd 127 86 = some (.aload_n 0, 1) := by decide +kernel
theorem c127_87 : mc_cd 127 87 = some (.getfield 21, 3) := by decide +kernel
theorem c127_90 : mc_cd 127 90 = some (.iload 4, 2) := by decide +kernel
theorem c127_92 : mc_cd 127 92 = some (.iaload, 1) := by decide +kernel
theorem c127_93 : mc_cd 127 93 = some (.iaload, 1) := by decide +kernel
theorem c127_94 : mc_cd 127 94 = some (.aload_n 0, 1) := by decide +kernel
theorem c127_95 : mc_cd 127 95 = some (.getfield 15, 3) := by decide +kernel
theorem c127_98 : mc_cd 127 98 = some (.iload_n 3, 1) := by decide +kernel
theorem c127_99 : mc_cd 127 99 = some (.iaload, 1) := by decide +kernel
theorem c127_100 : mc_cd 127 100 = some (.if_icmp .eq 5, 3) := by decide +kernel
theorem c127_103 : mc_cd 127 103 = some (.iconst 0, 1) := by decide +kernel
theorem c127_104 : mc_cd 127 104 = some (.ireturn, 1) := by decide +kernel
theorem c127_105 : mc_cd 127 105 = some (.iinc 3 1, 3) := by decide +kernel
theorem c127_108 : mc_cd 127 108 = some (.goto (-84), 3) := by decide +kernel
theorem c127_111 : mc_cd 127 111 = some (.iconst 1, 1) := by decide +kernel
theorem c127_112 : mc_cd 127 112 = some (.ireturn, 1) := by decide +kernel
abbrev q_127 (r0 : Nat) (r1 : Nat) (a2 : Int) (T : wq_T) (H : wq_H) : Option Value → wq_T → wq_H → Prop := fun r T' H' => T = T' ∧ WT T H' ∧ wfr [(23, 999), (24, 999)] T H H' ∧ ∃ z : Int, some (vI z) = r ∧ (0 ≤ z ∧ z ≤ 1)
set_option maxHeartbeats 4000000 in
theorem s_127 {kt : Nat → Option mc_E} {T : wq_T} {H : wq_H} {r0 : Nat} {r1 : Nat} {a2 : Int} (hW : WT T H) (g0 : T.2.2.2 r0 = some 20) (g1 : T.2.2.2 r1 = some 27) (i2 : (-2147483648) ≤ a2 ∧ a2 ≤ 2147483647) : wpc kt 3 127 [.ref r0, .ref r1, vI a2] T H (q_127 r0 r1 a2 T H) := by
  refine wp_enter e127 (Nat.le_of_ble_eq_true rfl) rfl ?_
  have f0 : wfr [(23, 999), (24, 999)] T H H := wfr.rf
  show wp _ _ 127 0 [(0, .ref r0), (1, .ref r1), (2, vI a2)] [] _ H _
  refine wp_of e127 c127_0 (rw_iconst (pc' := 1) rfl ?_)
  refine wp_of e127 c127_1 (rw_istore_n (pc' := 2) (z := 0) (L' := [(3, vI 0), (0, .ref r0), (1, .ref r1), (2, vI a2)]) rfl rfl rfl ?_)
  have lp38024 : ∀ (n38025 : Nat) (v38027 : Int) (H38028 : wq_H), WT T H38028 → wfr [(24, 999)] T H H38028 → (0 ≤ v38027 ∧ v38027 ≤ 1024) → (1024 - v38027).toNat = n38025 → wp kt 2 127 2 [(3, vI v38027), (0, .ref r0), (1, .ref r1), (2, vI a2)] [] T H38028 (q_127 r0 r1 a2 T H) := by
    intro n38025
    induction n38025 using Nat.strongRecOn with
    | _ n38025 ih38026 =>
      intro v38027 H38028 w38029 f38030 b38031 m38032
      have f38033 := f0.tr f38030 rfl
      refine wp_of e127 c127_2 (rw_iload_n (pc' := 3) (z := v38027) rfl rfl ?_)
      refine wp_of e127 c127_3 (rw_sipush (pc' := 6) (z := 1024) rfl (by decide) ?_)
      refine wp_of e127 c127_6 (rw_icmp_ge (p1 := 22) (p2 := 9) (by decide) rfl ⟨by omega, by omega⟩ ⟨by omega, by omega⟩ (fun c38034 => ?_) (fun c38034 => ?_))
      · refine wp_of e127 c127_22 (rw_iconst (pc' := 23) rfl ?_)
        refine wp_of e127 c127_23 (rw_istore_n (pc' := 24) (z := 0) (L' := [(3, vI 0), (0, .ref r0), (1, .ref r1), (2, vI a2)]) rfl rfl rfl ?_)
        have lp38491 : ∀ (n38492 : Nat) (v38494 : Int) (H38495 : wq_H), WT T H38495 → wfr [(23, 999), (24, 999)] T H38028 H38495 → (0 ≤ v38494 ∧ v38494 ≤ 400) → (400 - v38494).toNat = n38492 → wp kt 2 127 24 [(3, vI v38494), (0, .ref r0), (1, .ref r1), (2, vI a2)] [] T H38495 (q_127 r0 r1 a2 T H) := by
          intro n38492
          induction n38492 using Nat.strongRecOn with
          | _ n38492 ih38493 =>
            intro v38494 H38495 w38496 f38497 b38498 m38499
            have f38500 := f38033.tr f38497 rfl
            refine wp_of e127 c127_24 (rw_iload_n (pc' := 25) (z := v38494) rfl rfl ?_)
            refine wp_of e127 c127_25 (rw_aload_n (pc' := 26) (v := .ref r0) rfl rfl rfl ?_)
            refine wp_of e127 c127_26 (xg_I (pc' := 29) lf_5_28 w38496 g0 sh_20 (by decide) (by decide) ty_20_4 rfl rfl (fun b38501 b38502 => ?_))
            refine wp_of e127 c127_29 (rw_icmp_ge (p1 := 111) (p2 := 32) (by decide) rfl ⟨by omega, by omega⟩ ⟨by omega, by omega⟩ (fun c38503 => ?_) (fun c38503 => ?_))
            · refine wp_of e127 c127_111 (rw_iconst (pc' := 112) rfl ?_)
              exact wp_zreturn e127 c127_112 rfl (by omega) ⟨rfl, w38496, f38500, 1, rfl, ⟨by omega, by omega⟩⟩
            · refine wp_of e127 c127_32 (rw_aload_n (pc' := 33) (v := .ref r0) rfl rfl rfl ?_)
              refine wp_of e127 c127_33 (xg_R (pc' := 36) lf_5_18 w38496 g0 sh_20 (by decide) (by decide) ty_20_2 rfl rfl (fun r38504 q38505 g38506 => ?_))
              refine wp_of e127 c127_36 (rw_iload_n (pc' := 37) (z := v38494) rfl rfl ?_)
              refine wp_of e127 c127_37 (rw_aload_n (pc' := 38) (v := .ref r1) rfl rfl rfl ?_)
              refine wp_of e127 c127_38 (rw_aload_n (pc' := 39) (v := .ref r0) rfl rfl rfl ?_)
              refine wp_of e127 c127_39 (xg_R (pc' := 42) lf_5_9 w38496 g0 sh_20 (by decide) (by decide) ty_20_0 rfl rfl (fun r38507 q38508 g38509 => ?_))
              refine wp_of e127 c127_42 (rw_iload_n (pc' := 43) (z := v38494) rfl rfl ?_)
              refine wp_of e127 c127_43 (xa_I (so := 0) (pc' := 44) w38496 g38509 sh_21 (by decide) (ty_21 _) (by omega) (by omega) rfl (fun b38510 b38511 => ?_))
              refine wp_of e127 c127_44 (rw_iload_n (pc' := 45) (z := a2) rfl rfl ?_)
              refine wp_of e127 c127_45 (xc_S (pc' := 48) (as := [.ref r1, vI (H38495 r38507 (v38494.toNat)), vI a2]) (st := [vI v38494, .ref r38504]) (lm_5_61) rfl rfl (Nat.le_of_ble_eq_true rfl) rfl (by decide) (s_128 w38496 g1 ⟨by omega, by omega⟩ ⟨by omega, by omega⟩) (fun R38512 T38513 H38514 p38515 => ?_))
              obtain ⟨e38516, e38518, z38519, e38517, b38520⟩ := p38515
              subst e38516
              subst e38517
              subst e38518
              show wp _ _ 127 48 [(3, vI v38494), (0, .ref r0), (1, .ref r1), (2, vI a2)] [vI z38519, vI v38494, .ref r38504] _ H38495 _
              refine wp_of e127 c127_48 (xs_I (pc' := 49) w38496 g38506 (by decide) sh_23 (by decide) (ty_23 _) (by omega) (by omega) ⟨by omega, by omega⟩ (by omega) (by omega) rfl (fun H38521 e38522 w38523 => ?_))
              have f38524 := f38500.put' e38522 g38506 rfl
              have f38525 := f38497.put' e38522 g38506 rfl
              refine wp_of e127 c127_49 (rw_aload_n (pc' := 50) (v := .ref r0) rfl rfl rfl ?_)
              refine wp_of e127 c127_50 (rw_aload_n (pc' := 51) (v := .ref r0) rfl rfl rfl ?_)
              have k38526 : H38521 r0 2 = H38495 r0 2 := (wq_u_t e38522 g38506 g0 rfl 2)
              have q38527 : H38521 r0 2 = (r38504 : Int) := k38526.trans q38505
              refine wp_of e127 c127_51 (xg_K (pc' := 54) lf_5_18 w38523 g0 sh_20 (by decide) (by decide) rfl q38527 rfl ?_)
              refine wp_of e127 c127_54 (rw_iload_n (pc' := 55) (z := v38494) rfl rfl ?_)
              refine wp_of e127 c127_55 (xa_I (so := 0) (pc' := 56) w38523 g38506 sh_23 (by decide) (ty_23 _) (by omega) (by omega) rfl (fun b38528 b38529 => ?_))
              refine wp_of e127 c127_56 (xc_V (pc' := 59) (r := r0) (as := [vI (H38521 r38504 (v38494.toNat))]) (st := []) (lm_5_64) rfl rfl (Nat.le_of_ble_eq_true rfl) w38523 g0 sh_20 (by decide) rfl (by decide) (s_129 w38523 g0 ⟨by omega, by omega⟩) (fun R38530 T38531 H38532 p38533 => ?_))
              obtain ⟨e38534, e38536, z38537, e38535, b38538⟩ := p38533
              subst e38534
              subst e38535
              subst e38536
              show wp _ _ 127 59 [(3, vI v38494), (0, .ref r0), (1, .ref r1), (2, vI a2)] [vI z38537] _ H38521 _
              refine wp_of e127 c127_59 (rw_istore (pc' := 61) (z := z38537) (L' := [(4, vI z38537), (3, vI v38494), (0, .ref r0), (1, .ref r1), (2, vI a2)]) rfl rfl rfl ?_)
              refine wp_of e127 c127_61 (rw_aload_n (pc' := 62) (v := .ref r0) rfl rfl rfl ?_)
              refine wp_of e127 c127_62 (xg_R (pc' := 65) lf_5_21 w38523 g0 sh_20 (by decide) (by decide) ty_20_3 rfl rfl (fun r38539 q38540 g38541 => ?_))
              refine wp_of e127 c127_65 (rw_iload (pc' := 67) (z := z38537) rfl rfl ?_)
              refine wp_of e127 c127_67 (xa_I (so := 0) (pc' := 68) w38523 g38541 sh_24 (by decide) (ty_24 _) (by omega) (by omega) rfl (fun b38542 b38543 => ?_))
              refine wp_of e127 c127_68 (rw_if_ge (p1 := 82) (p2 := 71) (by decide) rfl ⟨by omega, by omega⟩ (fun c38544 => ?_) (fun c38544 => ?_))
              · refine wp_of e127 c127_82 (rw_aload_n (pc' := 83) (v := .ref r0) rfl rfl rfl ?_)
                refine wp_of e127 c127_83 (xg_R (pc' := 86) lf_5_15 w38523 g0 sh_20 (by decide) (by decide) ty_20_1 rfl rfl (fun r38545 q38546 g38547 => ?_))
                refine wp_of e127 c127_86 (rw_aload_n (pc' := 87) (v := .ref r0) rfl rfl rfl ?_)
                refine wp_of e127 c127_87 (xg_K (pc' := 90) lf_5_21 w38523 g0 sh_20 (by decide) (by decide) rfl q38540 rfl ?_)
                refine wp_of e127 c127_90 (rw_iload (pc' := 92) (z := z38537) rfl rfl ?_)
                refine wp_of e127 c127_92 (xa_I (so := 0) (pc' := 93) w38523 g38541 sh_24 (by decide) (ty_24 _) (by omega) (by omega) rfl (fun b38548 b38549 => ?_))
                refine wp_of e127 c127_93 (xa_I (so := 0) (pc' := 94) w38523 g38547 sh_22 (by decide) (ty_22 _) (by omega) (by omega) rfl (fun b38550 b38551 => ?_))
                refine wp_of e127 c127_94 (rw_aload_n (pc' := 95) (v := .ref r0) rfl rfl rfl ?_)
                refine wp_of e127 c127_95 (xg_K (pc' := 98) lf_5_15 w38523 g0 sh_20 (by decide) (by decide) rfl q38546 rfl ?_)
                refine wp_of e127 c127_98 (rw_iload_n (pc' := 99) (z := v38494) rfl rfl ?_)
                refine wp_of e127 c127_99 (xa_I (so := 0) (pc' := 100) w38523 g38547 sh_22 (by decide) (ty_22 _) (by omega) (by omega) rfl (fun b38552 b38553 => ?_))
                refine wp_of e127 c127_100 (rw_icmp_eq (p1 := 105) (p2 := 103) (by decide) rfl ⟨by omega, by omega⟩ ⟨by omega, by omega⟩ (fun c38554 => ?_) (fun c38554 => ?_))
                · refine wp_of e127 c127_105 (rw_iinc (pc' := 108) (z := v38494) (L' := [(3, vI (v38494 + 1)), (4, vI z38537), (0, .ref r0), (1, .ref r1), (2, vI a2)]) rfl rfl rfl rfl ?_)
                  refine wp_of e127 c127_108 (rw_goto (p1 := 24) (by decide) ?_)
                  exact wp_lc (ks := [3, 4, 0, 1, 2]) (wl_c rfl (wl_c rfl (wl_c rfl (wl_c rfl wl_n)))) rfl (by decide) (ih38493 _ (by omega) (v38494 + 1) H38521 w38523 f38525 ⟨by omega, by omega⟩ rfl)
                · refine wp_of e127 c127_103 (rw_iconst (pc' := 104) rfl ?_)
                  exact wp_zreturn e127 c127_104 rfl (by omega) ⟨rfl, w38523, f38524, 0, rfl, ⟨by omega, by omega⟩⟩
              · refine wp_of e127 c127_71 (rw_aload_n (pc' := 72) (v := .ref r0) rfl rfl rfl ?_)
                refine wp_of e127 c127_72 (xg_K (pc' := 75) lf_5_21 w38523 g0 sh_20 (by decide) (by decide) rfl q38540 rfl ?_)
                refine wp_of e127 c127_75 (rw_iload (pc' := 77) (z := z38537) rfl rfl ?_)
                refine wp_of e127 c127_77 (rw_iload_n (pc' := 78) (z := v38494) rfl rfl ?_)
                refine wp_of e127 c127_78 (xs_I (pc' := 79) w38523 g38541 (by decide) sh_24 (by decide) (ty_24 _) (by omega) (by omega) ⟨by omega, by omega⟩ (by omega) (by omega) rfl (fun H38555 e38556 w38557 => ?_))
                have f38558 := f38524.put' e38556 g38541 rfl
                have f38559 := f38525.put' e38556 g38541 rfl
                refine wp_of e127 c127_79 (rw_goto (p1 := 105) (by decide) ?_)
                refine wp_of e127 c127_105 (rw_iinc (pc' := 108) (z := v38494) (L' := [(3, vI (v38494 + 1)), (4, vI z38537), (0, .ref r0), (1, .ref r1), (2, vI a2)]) rfl rfl rfl rfl ?_)
                refine wp_of e127 c127_108 (rw_goto (p1 := 24) (by decide) ?_)
                exact wp_lc (ks := [3, 4, 0, 1, 2]) (wl_c rfl (wl_c rfl (wl_c rfl (wl_c rfl wl_n)))) rfl (by decide) (ih38493 _ (by omega) (v38494 + 1) H38555 w38557 f38559 ⟨by omega, by omega⟩ rfl)
        exact wp_lc (ks := [3, 0, 1, 2]) (wl_c rfl (wl_c rfl (wl_c rfl (wl_c rfl wl_n)))) rfl (by decide) (lp38491 _ 0 H38028 w38029 wfr.rf ⟨by omega, by omega⟩ rfl)
      · refine wp_of e127 c127_9 (rw_aload_n (pc' := 10) (v := .ref r0) rfl rfl rfl ?_)
        refine wp_of e127 c127_10 (xg_R (pc' := 13) lf_5_21 w38029 g0 sh_20 (by decide) (by decide) ty_20_3 rfl rfl (fun r38560 q38561 g38562 => ?_))
        refine wp_of e127 c127_13 (rw_iload_n (pc' := 14) (z := v38027) rfl rfl ?_)
        refine wp_of e127 c127_14 (rw_iconst (pc' := 15) rfl ?_)
        refine wp_of e127 c127_15 (xs_I (pc' := 16) w38029 g38562 (by decide) sh_24 (by decide) (ty_24 _) (by omega) (by omega) ⟨by omega, by omega⟩ (by omega) (by omega) rfl (fun H38563 e38564 w38565 => ?_))
        have f38566 := f38033.put' e38564 g38562 rfl
        have f38567 := f38030.put' e38564 g38562 rfl
        refine wp_of e127 c127_16 (rw_iinc (pc' := 19) (z := v38027) (L' := [(3, vI (v38027 + 1)), (0, .ref r0), (1, .ref r1), (2, vI a2)]) rfl rfl rfl rfl ?_)
        refine wp_of e127 c127_19 (rw_goto (p1 := 2) (by decide) ?_)
        exact wp_lc (ks := [3, 0, 1, 2]) (wl_c rfl (wl_c rfl (wl_c rfl (wl_c rfl wl_n)))) rfl (by decide) (ih38026 _ (by omega) (v38027 + 1) H38563 w38565 f38567 ⟨by omega, by omega⟩ rfl)
  exact wp_lc (ks := [3, 0, 1, 2]) (wl_c rfl (wl_c rfl (wl_c rfl (wl_c rfl wl_n)))) rfl (by decide) (lp38024 _ 0 H hW wfr.rf ⟨by omega, by omega⟩ rfl)
/-! StrikeAwake$Asking.fewest(LStrikeAwake$Parish;)I -/
theorem e125 : wq_en 125 = some (5, 5, false, some FieldType.int) := rfl
theorem c125_0 : mc_cd 125 0 = some (.iconst 1, 1) := by decide +kernel
theorem c125_1 : mc_cd 125 1 = some (.aload_n 1, 1) := by decide +kernel
theorem c125_2 : mc_cd 125 2 = some (.getfield 46, 3) := by decide +kernel
theorem c125_5 : mc_cd 125 5 = some (.ishl, 1) := by decide +kernel
theorem c125_6 : mc_cd 125 6 = some (.iconst 1, 1) := by decide +kernel
theorem c125_7 : mc_cd 125 7 = some (.isub, 1) := by decide +kernel
theorem c125_8 : mc_cd 125 8 = some (.istore_n 2, 1) := by decide +kernel
theorem c125_9 : mc_cd 125 9 = some (.iconst 0, 1) := by decide +kernel
theorem c125_10 : mc_cd 125 10 = some (.istore_n 3, 1) := by decide +kernel
theorem c125_11 : mc_cd 125 11 = some (.iload_n 3, 1) := by decide +kernel
theorem c125_12 : mc_cd 125 12 = some (.aload_n 1, 1) := by decide +kernel
theorem c125_13 : mc_cd 125 13 = some (.getfield 46, 3) := by decide +kernel
theorem c125_16 : mc_cd 125 16 = some (.if_icmp .ge 46, 3) := by decide +kernel
theorem c125_19 : mc_cd 125 19 = some (.iconst 0, 1) := by decide +kernel
theorem c125_20 : mc_cd 125 20 = some (.istore 4, 2) := by decide +kernel
theorem c125_22 : mc_cd 125 22 = some (.iload 4, 2) := by decide +kernel
theorem c125_24 : mc_cd 125 24 = some (.iload_n 2, 1) := by decide +kernel
theorem c125_25 : mc_cd 125 25 = some (.if_icmp .ge 31, 3) := by decide +kernel
theorem c125_28 : mc_cd 125 28 = some (.iload 4, 2) := by decide +kernel
theorem c125_30 : mc_cd 125 30 = some (.invokestatic 51, 3) := by decide +kernel
theorem c125_33 : mc_cd 125 33 = some (.iload_n 3, 1) := by decide +kernel
theorem c125_34 : mc_cd 125 34 = some (.if_icmp .ne 16, 3) := by decide +kernel
theorem c125_37 : mc_cd 125 37 = some (.aload_n 0, 1) := by decide +kernel
theorem c125_38 : mc_cd 125 38 = some (.aload_n 1, 1) := by decide +kernel
theorem c125_39 : mc_cd 125 39 = some (.iload 4, 2) := by decide +kernel
theorem c125_41 : mc_cd 125 41 = some (.invokevirtual 57, 3) := by decide +kernel
theorem c125_44 : mc_cd 125 44 = some (.ifCond .eq 6, 3) := by decide +kernel
theorem c125_47 : mc_cd 125 47 = some (.iload 4, 2) := by decide +kernel
theorem c125_49 : mc_cd 125 49 = some (.ireturn, 1) := by decide +kernel
theorem c125_50 : mc_cd 125 50 = some (.iinc 4 1, 3) := by decide +kernel
theorem c125_53 : mc_cd 125 53 = some (.goto (-31), 3) := by decide +kernel
theorem c125_56 : mc_cd 125 56 = some (.iinc 3 1, 3) := by decide +kernel
theorem c125_59 : mc_cd 125 59 = some (.goto (-48), 3) := by decide +kernel
theorem c125_62 : mc_cd 125 62 = some (.iload_n 2, 1) := by decide +kernel
theorem c125_63 : mc_cd 125 63 = some (.ireturn, 1) := by decide +kernel
abbrev q_125 (r0 : Nat) (r1 : Nat) (T : wq_T) (H : wq_H) : Option Value → wq_T → wq_H → Prop := fun r T' H' => T = T' ∧ WT T H' ∧ wfr [(23, 999), (24, 999)] T H H' ∧ ∃ z : Int, some (vI z) = r ∧ ((-2147483648) ≤ z ∧ z ≤ 2147483647)
set_option maxHeartbeats 4000000 in
theorem s_125 {kt : Nat → Option mc_E} {T : wq_T} {H : wq_H} {r0 : Nat} {r1 : Nat} (hW : WT T H) (g0 : T.2.2.2 r0 = some 20) (g1 : T.2.2.2 r1 = some 27) : wpc kt 4 125 [.ref r0, .ref r1] T H (q_125 r0 r1 T H) := by
  refine wp_enter e125 (Nat.le_of_ble_eq_true rfl) rfl ?_
  have f0 : wfr [(23, 999), (24, 999)] T H H := wfr.rf
  show wp _ _ 125 0 [(0, .ref r0), (1, .ref r1)] [] _ H _
  refine wp_of e125 c125_0 (rw_iconst (pc' := 1) rfl ?_)
  refine wp_of e125 c125_1 (rw_aload_n (pc' := 2) (v := .ref r1) rfl rfl rfl ?_)
  refine wp_of e125 c125_2 (xg_I (pc' := 5) lf_5_46 hW g1 sh_27 (by decide) (by decide) ty_27_10 rfl rfl (fun b40269 b40270 => ?_))
  refine wp_of e125 c125_5 (rw_ishl (pc' := 6) rfl ?_)
  obtain ⟨v40271, e40272⟩ : ∃ x : Int, x = wq_shl 1 (H r1 10) := ⟨_, rfl⟩
  rw [← e40272]
  have b40273 : 1 ≤ v40271 ∧ v40271 ≤ 64 := by
    rw [e40272]
    exact wq_shl1_6 ⟨by omega, by omega⟩
  refine wp_of e125 c125_6 (rw_iconst (pc' := 7) rfl ?_)
  refine wp_of e125 c125_7 (rw_isub (pc' := 8) rfl ?_)
  refine wp_of e125 c125_8 (rw_istore_n (pc' := 9) (z := v40271 - 1) (L' := [(2, vI (v40271 - 1)), (0, .ref r0), (1, .ref r1)]) rfl rfl rfl ?_)
  refine wp_of e125 c125_9 (rw_iconst (pc' := 10) rfl ?_)
  refine wp_of e125 c125_10 (rw_istore_n (pc' := 11) (z := 0) (L' := [(3, vI 0), (2, vI (v40271 - 1)), (0, .ref r0), (1, .ref r1)]) rfl rfl rfl ?_)
  have lp41758 : ∀ (n41759 : Nat) (v41761 : Int) (H41762 : wq_H), WT T H41762 → wfr [(23, 999), (24, 999)] T H H41762 → (0 ≤ v41761 ∧ v41761 ≤ 6) → (6 - v41761).toNat = n41759 → wp kt 3 125 11 [(3, vI v41761), (2, vI (v40271 - 1)), (0, .ref r0), (1, .ref r1)] [] T H41762 (q_125 r0 r1 T H) := by
    intro n41759
    induction n41759 using Nat.strongRecOn with
    | _ n41759 ih41760 =>
      intro v41761 H41762 w41763 f41764 b41765 m41766
      have f41767 := f0.tr f41764 rfl
      refine wp_of e125 c125_11 (rw_iload_n (pc' := 12) (z := v41761) rfl rfl ?_)
      refine wp_of e125 c125_12 (rw_aload_n (pc' := 13) (v := .ref r1) rfl rfl rfl ?_)
      have k41768 : H41762 r1 10 = H r1 10 := (f41764 r1 10 _ g1 rfl)
      refine wp_of e125 c125_13 (xg_I (pc' := 16) lf_5_46 w41763 g1 sh_27 (by decide) (by decide) ty_27_10 rfl rfl (fun b41769 b41770 => ?_))
      refine wp_of e125 c125_16 (rw_icmp_ge (p1 := 62) (p2 := 19) (by decide) rfl ⟨by omega, by omega⟩ ⟨by omega, by omega⟩ (fun c41771 => ?_) (fun c41771 => ?_))
      · refine wp_of e125 c125_62 (rw_iload_n (pc' := 63) (z := v40271 - 1) rfl rfl ?_)
        exact wp_ireturn e125 c125_63 rfl ⟨rfl, w41763, f41767, v40271 - 1, rfl, ⟨by omega, by omega⟩⟩
      · refine wp_of e125 c125_19 (rw_iconst (pc' := 20) rfl ?_)
        refine wp_of e125 c125_20 (rw_istore (pc' := 22) (z := 0) (L' := [(4, vI 0), (3, vI v41761), (2, vI (v40271 - 1)), (0, .ref r0), (1, .ref r1)]) rfl rfl rfl ?_)
        have lp41964 : ∀ (n41965 : Nat) (v41967 : Int) (H41968 : wq_H), WT T H41968 → wfr [(23, 999), (24, 999)] T H41762 H41968 → (0 ≤ v41967 ∧ v41967 ≤ 63) → (63 - v41967).toNat = n41965 → wp kt 3 125 22 [(4, vI v41967), (3, vI v41761), (2, vI (v40271 - 1)), (0, .ref r0), (1, .ref r1)] [] T H41968 (q_125 r0 r1 T H) := by
          intro n41965
          induction n41965 using Nat.strongRecOn with
          | _ n41965 ih41966 =>
            intro v41967 H41968 w41969 f41970 b41971 m41972
            have f41973 := f41767.tr f41970 rfl
            have f41974 := f41764.tr f41970 rfl
            refine wp_of e125 c125_22 (rw_iload (pc' := 24) (z := v41967) rfl rfl ?_)
            refine wp_of e125 c125_24 (rw_iload_n (pc' := 25) (z := v40271 - 1) rfl rfl ?_)
            refine wp_of e125 c125_25 (rw_icmp_ge (p1 := 56) (p2 := 28) (by decide) rfl ⟨by omega, by omega⟩ ⟨by omega, by omega⟩ (fun c41975 => ?_) (fun c41975 => ?_))
            · refine wp_of e125 c125_56 (rw_iinc (pc' := 59) (z := v41761) (L' := [(3, vI (v41761 + 1)), (4, vI v41967), (2, vI (v40271 - 1)), (0, .ref r0), (1, .ref r1)]) rfl rfl rfl rfl ?_)
              refine wp_of e125 c125_59 (rw_goto (p1 := 11) (by decide) ?_)
              exact wp_lc (ks := [3, 4, 2, 0, 1]) (wl_c rfl (wl_c rfl (wl_c rfl (wl_c rfl wl_n)))) rfl (by decide) (ih41760 _ (by omega) (v41761 + 1) H41968 w41969 f41974 ⟨by omega, by omega⟩ rfl)
            · refine wp_of e125 c125_28 (rw_iload (pc' := 30) (z := v41967) rfl rfl ?_)
              refine wp_of e125 c125_30 (xc_S (pc' := 33) (as := [vI v41967]) (st := []) (lm_5_51) rfl rfl (Nat.le_of_ble_eq_true rfl) rfl (by decide) (s_126 w41969 ⟨by omega, by omega⟩) (fun R41976 T41977 H41978 p41979 => ?_))
              obtain ⟨e41980, e41982, z41983, e41981, b41984⟩ := p41979
              subst e41980
              subst e41981
              subst e41982
              show wp _ _ 125 33 [(4, vI v41967), (3, vI v41761), (2, vI (v40271 - 1)), (0, .ref r0), (1, .ref r1)] [vI z41983] _ H41968 _
              refine wp_of e125 c125_33 (rw_iload_n (pc' := 34) (z := v41761) rfl rfl ?_)
              refine wp_of e125 c125_34 (rw_icmp_ne (p1 := 50) (p2 := 37) (by decide) rfl ⟨by omega, by omega⟩ ⟨by omega, by omega⟩ (fun c41985 => ?_) (fun c41985 => ?_))
              · refine wp_of e125 c125_50 (rw_iinc (pc' := 53) (z := v41967) (L' := [(4, vI (v41967 + 1)), (3, vI v41761), (2, vI (v40271 - 1)), (0, .ref r0), (1, .ref r1)]) rfl rfl rfl rfl ?_)
                refine wp_of e125 c125_53 (rw_goto (p1 := 22) (by decide) ?_)
                exact wp_lc (ks := [4, 3, 2, 0, 1]) (wl_c rfl (wl_c rfl (wl_c rfl (wl_c rfl (wl_c rfl wl_n))))) rfl (by decide) (ih41966 _ (by omega) (v41967 + 1) H41968 w41969 f41970 ⟨by omega, by omega⟩ rfl)
              · refine wp_of e125 c125_37 (rw_aload_n (pc' := 38) (v := .ref r0) rfl rfl rfl ?_)
                refine wp_of e125 c125_38 (rw_aload_n (pc' := 39) (v := .ref r1) rfl rfl rfl ?_)
                refine wp_of e125 c125_39 (rw_iload (pc' := 41) (z := v41967) rfl rfl ?_)
                refine wp_of e125 c125_41 (xc_V (pc' := 44) (r := r0) (as := [.ref r1, vI v41967]) (st := []) (lm_5_57) rfl rfl (Nat.le_of_ble_eq_true rfl) w41969 g0 sh_20 (by decide) rfl (by decide) (s_127 w41969 g0 g1 ⟨by omega, by omega⟩) (fun R41986 T41987 H41988 p41989 => ?_))
                obtain ⟨e41990, w41992, f41993, z41994, e41991, b41995⟩ := p41989
                subst e41990
                subst e41991
                have f41996 := f41973.tr f41993 rfl
                have f41997 := f41974.tr f41993 rfl
                have f41998 := f41970.tr f41993 rfl
                show wp _ _ 125 44 [(4, vI v41967), (3, vI v41761), (2, vI (v40271 - 1)), (0, .ref r0), (1, .ref r1)] [vI z41994] _ H41988 _
                refine wp_of e125 c125_44 (rw_if_eq (p1 := 50) (p2 := 47) (by decide) rfl ⟨by omega, by omega⟩ (fun c41999 => ?_) (fun c41999 => ?_))
                · refine wp_of e125 c125_50 (rw_iinc (pc' := 53) (z := v41967) (L' := [(4, vI (v41967 + 1)), (3, vI v41761), (2, vI (v40271 - 1)), (0, .ref r0), (1, .ref r1)]) rfl rfl rfl rfl ?_)
                  refine wp_of e125 c125_53 (rw_goto (p1 := 22) (by decide) ?_)
                  exact wp_lc (ks := [4, 3, 2, 0, 1]) (wl_c rfl (wl_c rfl (wl_c rfl (wl_c rfl (wl_c rfl wl_n))))) rfl (by decide) (ih41966 _ (by omega) (v41967 + 1) H41988 w41992 f41998 ⟨by omega, by omega⟩ rfl)
                · refine wp_of e125 c125_47 (rw_iload (pc' := 49) (z := v41967) rfl rfl ?_)
                  exact wp_ireturn e125 c125_49 rfl ⟨rfl, w41992, f41996, v41967, rfl, ⟨by omega, by omega⟩⟩
        exact wp_lc (ks := [4, 3, 2, 0, 1]) (wl_c rfl (wl_c rfl (wl_c rfl (wl_c rfl (wl_c rfl wl_n))))) rfl (by decide) (lp41964 _ 0 H41762 w41763 wfr.rf ⟨by omega, by omega⟩ rfl)
  exact wp_lc (ks := [3, 2, 0, 1]) (wl_c rfl (wl_c rfl (wl_c rfl (wl_c rfl wl_n)))) rfl (by decide) (lp41758 _ 0 H hW wfr.rf ⟨by omega, by omega⟩ rfl)
/-! StrikeAwake$Asking.fewestForAll(LStrikeAwake$Parish;LStrikeAwake$Census;)I -/
theorem e122 : wq_en 122 = some (5, 4, false, some FieldType.int) := rfl
theorem c122_0 : mc_cd 122 0 = some (.aload_n 0, 1) := by decide +kernel
theorem c122_1 : mc_cd 122 1 = some (.aload_n 1, 1) := by decide +kernel
theorem c122_2 : mc_cd 122 2 = some (.aload_n 2, 1) := by decide +kernel
theorem c122_3 : mc_cd 122 3 = some (.invokevirtual 24, 3) := by decide +kernel
theorem c122_6 : mc_cd 122 6 = some (.iconst 0, 1) := by decide +kernel
theorem c122_7 : mc_cd 122 7 = some (.istore_n 3, 1) := by decide +kernel
theorem c122_8 : mc_cd 122 8 = some (.iload_n 3, 1) := by decide +kernel
theorem c122_9 : mc_cd 122 9 = some (.aload_n 0, 1) := by decide +kernel
theorem c122_10 : mc_cd 122 10 = some (.getfield 28, 3) := by decide +kernel
theorem c122_13 : mc_cd 122 13 = some (.if_icmp .ge 21, 3) := by decide +kernel
theorem c122_16 : mc_cd 122 16 = some (.aload_n 0, 1) := by decide +kernel
theorem c122_17 : mc_cd 122 17 = some (.getfield 15, 3) := by decide +kernel
theorem c122_20 : mc_cd 122 20 = some (.iload_n 3, 1) := by decide +kernel
theorem c122_21 : mc_cd 122 21 = some (.aload_n 0, 1) := by decide +kernel
theorem c122_22 : mc_cd 122 22 = some (.getfield 9, 3) := by decide +kernel
theorem c122_25 : mc_cd 122 25 = some (.iload_n 3, 1) := by decide +kernel
theorem c122_26 : mc_cd 122 26 = some (.iaload, 1) := by decide +kernel
theorem c122_27 : mc_cd 122 27 = some (.iastore, 1) := by decide +kernel
theorem c122_28 : mc_cd 122 28 = some (.iinc 3 1, 3) := by decide +kernel
theorem c122_31 : mc_cd 122 31 = some (.goto (-23), 3) := by decide +kernel
theorem c122_34 : mc_cd 122 34 = some (.aload_n 0, 1) := by decide +kernel
theorem c122_35 : mc_cd 122 35 = some (.aload_n 1, 1) := by decide +kernel
theorem c122_36 : mc_cd 122 36 = some (.invokevirtual 32, 3) := by decide +kernel
theorem c122_39 : mc_cd 122 39 = some (.ireturn, 1) := by decide +kernel
abbrev q_122 (r0 : Nat) (r1 : Nat) (r2 : Nat) (T : wq_T) (H : wq_H) : Option Value → wq_T → wq_H → Prop := fun r T' H' => T = T' ∧ WT T H' ∧ wfr [(20, 4), (22, 999), (23, 999), (21, 999), (24, 999)] T H H' ∧ ∃ z : Int, some (vI z) = r ∧ ((-2147483648) ≤ z ∧ z ≤ 2147483647)
set_option maxHeartbeats 4000000 in
theorem s_122 {kt : Nat → Option mc_E} {T : wq_T} {H : wq_H} {r0 : Nat} {r1 : Nat} {r2 : Nat} (hW : WT T H) (g0 : T.2.2.2 r0 = some 20) (g1 : T.2.2.2 r1 = some 27) (g2 : T.2.2.2 r2 = some 12) : wpc kt 5 122 [.ref r0, .ref r1, .ref r2] T H (q_122 r0 r1 r2 T H) := by
  refine wp_enter e122 (Nat.le_of_ble_eq_true rfl) rfl ?_
  have f0 : wfr [(20, 4), (22, 999), (23, 999), (21, 999), (24, 999)] T H H := wfr.rf
  show wp _ _ 122 0 [(0, .ref r0), (1, .ref r1), (2, .ref r2)] [] _ H _
  refine wp_of e122 c122_0 (rw_aload_n (pc' := 1) (v := .ref r0) rfl rfl rfl ?_)
  refine wp_of e122 c122_1 (rw_aload_n (pc' := 2) (v := .ref r1) rfl rfl rfl ?_)
  refine wp_of e122 c122_2 (rw_aload_n (pc' := 3) (v := .ref r2) rfl rfl rfl ?_)
  refine wp_of e122 c122_3 (xc_V (pc' := 6) (r := r0) (as := [.ref r1, .ref r2]) (st := []) (lm_5_24) rfl rfl (Nat.le_of_ble_eq_true rfl) hW g0 sh_20 (by decide) rfl (by decide) (s_123 hW g0 g1 g2) (fun R42156 T42157 H42158 p42159 => ?_))
  obtain ⟨e42160, w42162, f42163, e42161⟩ := p42159
  subst e42160
  subst e42161
  have f42164 := f0.tr f42163 rfl
  show wp _ _ 122 6 [(0, .ref r0), (1, .ref r1), (2, .ref r2)] [] _ H42158 _
  refine wp_of e122 c122_6 (rw_iconst (pc' := 7) rfl ?_)
  refine wp_of e122 c122_7 (rw_istore_n (pc' := 8) (z := 0) (L' := [(3, vI 0), (0, .ref r0), (1, .ref r1), (2, .ref r2)]) rfl rfl rfl ?_)
  have lp42285 : ∀ (n42286 : Nat) (v42288 : Int) (H42289 : wq_H), WT T H42289 → wfr [(22, 999)] T H42158 H42289 → (0 ≤ v42288 ∧ v42288 ≤ 400) → (400 - v42288).toNat = n42286 → wp kt 4 122 8 [(3, vI v42288), (0, .ref r0), (1, .ref r1)] [] T H42289 (q_122 r0 r1 r2 T H) := by
    intro n42286
    induction n42286 using Nat.strongRecOn with
    | _ n42286 ih42287 =>
      intro v42288 H42289 w42290 f42291 b42292 m42293
      have f42294 := f42164.tr f42291 rfl
      refine wp_of e122 c122_8 (rw_iload_n (pc' := 9) (z := v42288) rfl rfl ?_)
      refine wp_of e122 c122_9 (rw_aload_n (pc' := 10) (v := .ref r0) rfl rfl rfl ?_)
      refine wp_of e122 c122_10 (xg_I (pc' := 13) lf_5_28 w42290 g0 sh_20 (by decide) (by decide) ty_20_4 rfl rfl (fun b42295 b42296 => ?_))
      refine wp_of e122 c122_13 (rw_icmp_ge (p1 := 34) (p2 := 16) (by decide) rfl ⟨by omega, by omega⟩ ⟨by omega, by omega⟩ (fun c42297 => ?_) (fun c42297 => ?_))
      · refine wp_of e122 c122_34 (rw_aload_n (pc' := 35) (v := .ref r0) rfl rfl rfl ?_)
        refine wp_of e122 c122_35 (rw_aload_n (pc' := 36) (v := .ref r1) rfl rfl rfl ?_)
        refine wp_of e122 c122_36 (xc_V (pc' := 39) (r := r0) (as := [.ref r1]) (st := []) (lm_5_32) rfl rfl (Nat.le_of_ble_eq_true rfl) w42290 g0 sh_20 (by decide) rfl (by decide) (s_125 w42290 g0 g1) (fun R42298 T42299 H42300 p42301 => ?_))
        obtain ⟨e42302, w42304, f42305, z42306, e42303, b42307⟩ := p42301
        subst e42302
        subst e42303
        have f42308 := f42294.tr f42305 rfl
        show wp _ _ 122 39 [(3, vI v42288), (0, .ref r0), (1, .ref r1)] [vI z42306] _ H42300 _
        exact wp_ireturn e122 c122_39 rfl ⟨rfl, w42304, f42308, z42306, rfl, ⟨by omega, by omega⟩⟩
      · refine wp_of e122 c122_16 (rw_aload_n (pc' := 17) (v := .ref r0) rfl rfl rfl ?_)
        refine wp_of e122 c122_17 (xg_R (pc' := 20) lf_5_15 w42290 g0 sh_20 (by decide) (by decide) ty_20_1 rfl rfl (fun r42309 q42310 g42311 => ?_))
        refine wp_of e122 c122_20 (rw_iload_n (pc' := 21) (z := v42288) rfl rfl ?_)
        refine wp_of e122 c122_21 (rw_aload_n (pc' := 22) (v := .ref r0) rfl rfl rfl ?_)
        refine wp_of e122 c122_22 (xg_R (pc' := 25) lf_5_9 w42290 g0 sh_20 (by decide) (by decide) ty_20_0 rfl rfl (fun r42312 q42313 g42314 => ?_))
        refine wp_of e122 c122_25 (rw_iload_n (pc' := 26) (z := v42288) rfl rfl ?_)
        refine wp_of e122 c122_26 (xa_I (so := 0) (pc' := 27) w42290 g42314 sh_21 (by decide) (ty_21 _) (by omega) (by omega) rfl (fun b42315 b42316 => ?_))
        refine wp_of e122 c122_27 (xs_I (pc' := 28) w42290 g42311 (by decide) sh_22 (by decide) (ty_22 _) (by omega) (by omega) ⟨by omega, by omega⟩ (by omega) (by omega) rfl (fun H42317 e42318 w42319 => ?_))
        have f42320 := f42294.put' e42318 g42311 rfl
        have f42321 := f42291.put' e42318 g42311 rfl
        refine wp_of e122 c122_28 (rw_iinc (pc' := 31) (z := v42288) (L' := [(3, vI (v42288 + 1)), (0, .ref r0), (1, .ref r1)]) rfl rfl rfl rfl ?_)
        refine wp_of e122 c122_31 (rw_goto (p1 := 8) (by decide) ?_)
        exact wp_lc (ks := [3, 0, 1]) (wl_c rfl (wl_c rfl (wl_c rfl wl_n))) rfl (by decide) (ih42287 _ (by omega) (v42288 + 1) H42317 w42319 f42321 ⟨by omega, by omega⟩ rfl)
  exact wp_lc (ks := [3, 0, 1, 2]) (wl_c rfl (wl_c rfl (wl_c rfl wl_n))) rfl (by decide) (lp42285 _ 0 H42158 w42162 wfr.rf ⟨by omega, by omega⟩ rfl)
/-! StrikeAwake.ask()I -/
theorem e120 : wq_en 120 = some (0, 2, false, some FieldType.int) := rfl
theorem c120_0 : mc_cd 120 0 = some (.aload_n 0, 1) := by decide +kernel
theorem c120_1 : mc_cd 120 1 = some (.aload_n 0, 1) := by decide +kernel
theorem c120_2 : mc_cd 120 2 = some (.getfield 58, 3) := by decide +kernel
theorem c120_5 : mc_cd 120 5 = some (.invokevirtual 227, 3) := by decide +kernel
theorem c120_8 : mc_cd 120 8 = some (.istore_n 1, 1) := by decide +kernel
theorem c120_9 : mc_cd 120 9 = some (.iload_n 1, 1) := by decide +kernel
theorem c120_10 : mc_cd 120 10 = some (.ifCond .eq 9, 3) := by decide +kernel
theorem c120_13 : mc_cd 120 13 = some (.aload_n 0, 1) := by decide +kernel
theorem c120_14 : mc_cd 120 14 = some (.iload_n 1, 1) := by decide +kernel
theorem c120_15 : mc_cd 120 15 = some (.invokevirtual 70, 3) := by decide +kernel
theorem c120_18 : mc_cd 120 18 = some (.ireturn, 1) := by decide +kernel
theorem c120_19 : mc_cd 120 19 = some (.aload_n 0, 1) := by decide +kernel
theorem c120_20 : mc_cd 120 20 = some (.aload_n 0, 1) := by decide +kernel
theorem c120_21 : mc_cd 120 21 = some (.getfield 37, 3) := by decide +kernel
theorem c120_24 : mc_cd 120 24 = some (.aload_n 0, 1) := by decide +kernel
theorem c120_25 : mc_cd 120 25 = some (.getfield 51, 3) := by decide +kernel
theorem c120_28 : mc_cd 120 28 = some (.aload_n 0, 1) := by decide +kernel
theorem c120_29 : mc_cd 120 29 = some (.getfield 30, 3) := by decide +kernel
theorem c120_32 : mc_cd 120 32 = some (.invokevirtual 230, 3) := by decide +kernel
theorem c120_35 : mc_cd 120 35 = some (.invokevirtual 99, 3) := by decide +kernel
theorem c120_38 : mc_cd 120 38 = some (.ireturn, 1) := by decide +kernel
abbrev q_120 (r0 : Nat) (T : wq_T) (H : wq_H) : Option Value → wq_T → wq_H → Prop := fun r T' H' => T = T' ∧ WT T H' ∧ wfr [(20, 4), (12, 5), (12, 6), (12, 7), (12, 8), (12, 9), (1, 10), (6, 5), (8, 999), (10, 999), (15, 999), (22, 999), (9, 999), (18, 999), (23, 999), (19, 999), (21, 999), (7, 999), (11, 999), (24, 999), (17, 999), (13, 999)] T H H' ∧ ∃ z : Int, some (vI z) = r ∧ ((-2147483648) ≤ z ∧ z ≤ 2147483647) ∧ (H' r0 10 ≠ 4)
set_option maxHeartbeats 4000000 in
theorem s_120 {kt : Nat → Option mc_E} {T : wq_T} {H : wq_H} {r0 : Nat} (hW : WT T H) (g0 : T.2.2.2 r0 = some 1) : wpc kt 7 120 [.ref r0] T H (q_120 r0 T H) := by
  refine wp_enter e120 (Nat.le_of_ble_eq_true rfl) rfl ?_
  have f0 : wfr [(20, 4), (12, 5), (12, 6), (12, 7), (12, 8), (12, 9), (1, 10), (6, 5), (8, 999), (10, 999), (15, 999), (22, 999), (9, 999), (18, 999), (23, 999), (19, 999), (21, 999), (7, 999), (11, 999), (24, 999), (17, 999), (13, 999)] T H H := wfr.rf
  show wp _ _ 120 0 [(0, .ref r0)] [] _ H _
  refine wp_of e120 c120_0 (rw_aload_n (pc' := 1) (v := .ref r0) rfl rfl rfl ?_)
  refine wp_of e120 c120_1 (rw_aload_n (pc' := 2) (v := .ref r0) rfl rfl rfl ?_)
  refine wp_of e120 c120_2 (xg_I (pc' := 5) lf_0_58 hW g0 sh_1 (by decide) (by decide) ty_1_8 rfl rfl (fun b42382 b42383 => ?_))
  refine wp_of e120 c120_5 (xc_V (pc' := 8) (r := r0) (as := [vI (H r0 8)]) (st := []) (lm_0_227) rfl rfl (Nat.le_of_ble_eq_true rfl) hW g0 sh_1 (by decide) rfl (by decide) (s_121 hW g0 ⟨by omega, by omega⟩) (fun R42384 T42385 H42386 p42387 => ?_))
  obtain ⟨e42388, w42390, f42391, z42394, e42389, b42395, p42392, p42393⟩ := p42387
  subst e42388
  subst e42389
  have f42396 := f0.tr f42391 rfl
  show wp _ _ 120 8 [(0, .ref r0)] [vI z42394] _ H42386 _
  refine wp_of e120 c120_8 (rw_istore_n (pc' := 9) (z := z42394) (L' := [(1, vI z42394), (0, .ref r0)]) rfl rfl rfl ?_)
  refine wp_of e120 c120_9 (rw_iload_n (pc' := 10) (z := z42394) rfl rfl ?_)
  refine wp_of e120 c120_10 (rw_if_eq (p1 := 19) (p2 := 13) (by decide) rfl ⟨by omega, by omega⟩ (fun c42397 => ?_) (fun c42397 => ?_))
  · refine wp_of e120 c120_19 (rw_aload_n (pc' := 20) (v := .ref r0) rfl rfl rfl ?_)
    refine wp_of e120 c120_20 (rw_aload_n (pc' := 21) (v := .ref r0) rfl rfl rfl ?_)
    refine wp_of e120 c120_21 (xg_R (pc' := 24) lf_0_37 w42390 g0 sh_1 (by decide) (by decide) ty_1_4 rfl rfl (fun r42398 q42399 g42400 => ?_))
    refine wp_of e120 c120_24 (rw_aload_n (pc' := 25) (v := .ref r0) rfl rfl rfl ?_)
    refine wp_of e120 c120_25 (xg_R (pc' := 28) lf_0_51 w42390 g0 sh_1 (by decide) (by decide) ty_1_6 rfl rfl (fun r42401 q42402 g42403 => ?_))
    refine wp_of e120 c120_28 (rw_aload_n (pc' := 29) (v := .ref r0) rfl rfl rfl ?_)
    refine wp_of e120 c120_29 (xg_R (pc' := 32) lf_0_30 w42390 g0 sh_1 (by decide) (by decide) ty_1_3 rfl rfl (fun r42404 q42405 g42406 => ?_))
    refine wp_of e120 c120_32 (xc_V (pc' := 35) (r := r42398) (as := [.ref r42401, .ref r42404]) (st := [.ref r0]) (lm_0_230) rfl rfl (Nat.le_of_ble_eq_true rfl) w42390 g42400 sh_20 (by decide) rfl (by decide) (s_122 w42390 g42400 g42403 g42406) (fun R42407 T42408 H42409 p42410 => ?_))
    obtain ⟨e42411, w42413, f42414, z42415, e42412, b42416⟩ := p42410
    subst e42411
    subst e42412
    have f42417 := f42396.tr f42414 rfl
    show wp _ _ 120 35 [(1, vI z42394), (0, .ref r0)] [vI z42415, .ref r0] _ H42409 _
    refine wp_of e120 c120_35 (xc_V (pc' := 38) (r := r0) (as := [vI z42415]) (st := []) (lm_0_99) rfl rfl (Nat.le_of_ble_eq_true rfl) w42413 g0 sh_1 (by decide) rfl (by decide) (s_51 w42413 g0 ⟨by omega, by omega⟩) (fun R42418 T42419 H42420 p42421 => ?_))
    obtain ⟨e42422, w42424, f42425, z42427, e42423, b42428, p42426⟩ := p42421
    subst e42422
    subst e42423
    have f42429 := f42417.tr f42425 rfl
    show wp _ _ 120 38 [(1, vI z42394), (0, .ref r0)] [vI z42427] _ H42420 _
    exact wp_ireturn e120 c120_38 rfl ⟨rfl, w42424, f42429, z42427, rfl, ⟨by omega, by omega⟩, by omega⟩
  · refine wp_of e120 c120_13 (rw_aload_n (pc' := 14) (v := .ref r0) rfl rfl rfl ?_)
    refine wp_of e120 c120_14 (rw_iload_n (pc' := 15) (z := z42394) rfl rfl ?_)
    refine wp_of e120 c120_15 (xc_V (pc' := 18) (r := r0) (as := [vI z42394]) (st := []) (lm_0_70) rfl rfl (Nat.le_of_ble_eq_true rfl) w42390 g0 sh_1 (by decide) rfl (by decide) (s_12 w42390 g0 ⟨by omega, by omega⟩) (fun R42430 T42431 H42432 p42433 => ?_))
    obtain ⟨e42434, w42436, f42437, z42439, e42435, b42440, p42438⟩ := p42433
    subst e42434
    subst e42435
    have f42441 := f42396.tr f42437 rfl
    show wp _ _ 120 18 [(1, vI z42394), (0, .ref r0)] [vI z42439] _ H42432 _
    exact wp_ireturn e120 c120_18 rfl ⟨rfl, w42436, f42441, z42439, rfl, ⟨by omega, by omega⟩, by omega⟩
