/-! methods of the reference (own work, written by wip/gen2/sx.py) -/
/-! StrikeAwakeModel.having(II)I -/
theorem e249 : wq_en 249 = some (9, 6, false, some FieldType.int) := rfl
theorem c249_0 : mc_cd 249 0 = some (.aload_n 0, 1) := by decide +kernel
theorem c249_1 : mc_cd 249 1 = some (.iconst 0, 1) := by decide +kernel
theorem c249_2 : mc_cd 249 2 = some (.putfield 48, 3) := by decide +kernel
theorem c249_5 : mc_cd 249 5 = some (.aload_n 0, 1) := by decide +kernel
theorem c249_6 : mc_cd 249 6 = some (.aload_n 0, 1) := by decide +kernel
theorem c249_7 : mc_cd 249 7 = some (.iload_n 1, 1) := by decide +kernel
theorem c249_8 : mc_cd 249 8 = some (.iload_n 2, 1) := by decide +kernel
theorem c249_9 : mc_cd 249 9 = some (.invokevirtual 367, 3) := by decide +kernel
theorem c249_12 : mc_cd 249 12 = some (.invokevirtual 433, 3) := by decide +kernel
theorem c249_15 : mc_cd 249 15 = some (.istore_n 3, 1) := by decide +kernel
theorem c249_16 : mc_cd 249 16 = some (.iload_n 3, 1) := by decide +kernel
theorem c249_17 : mc_cd 249 17 = some (.ifCond .le 9, 3) := by decide +kernel
theorem c249_20 : mc_cd 249 20 = some (.aload_n 0, 1) := by decide +kernel
theorem c249_21 : mc_cd 249 21 = some (.iload_n 3, 1) := by decide +kernel
theorem c249_22 : mc_cd 249 22 = some (.invokevirtual 54, 3) := by decide +kernel
theorem c249_25 : mc_cd 249 25 = some (.ireturn, 1) := by decide +kernel
theorem c249_26 : mc_cd 249 26 = some (.iconst 0, 1) := by decide +kernel
theorem c249_27 : mc_cd 249 27 = some (.istore 4, 2) := by decide +kernel
theorem c249_29 : mc_cd 249 29 = some (.iconst 0, 1) := by decide +kernel
theorem c249_30 : mc_cd 249 30 = some (.istore 5, 2) := by decide +kernel
theorem c249_32 : mc_cd 249 32 = some (.iload 5, 2) := by decide +kernel
theorem c249_34 : mc_cd 249 34 = some (.aload_n 0, 1) := by decide +kernel
theorem c249_35 : mc_cd 249 35 = some (.getfield 422, 3) := by decide +kernel
theorem c249_38 : mc_cd 249 38 = some (.if_icmp .ge 40, 3) := by decide +kernel
theorem c249_41 : mc_cd 249 41 = some (.aload_n 0, 1) := by decide +kernel
theorem c249_42 : mc_cd 249 42 = some (.aload_n 0, 1) := by decide +kernel
theorem c249_43 : mc_cd 249 43 = some (.getfield 42, 3) := by decide +kernel
theorem c249_46 : mc_cd 249 46 = some (.iload 5, 2) := by decide +kernel
theorem c249_48 : mc_cd 249 48 = some (.iaload, 1) := by decide +kernel
theorem c249_49 : mc_cd 249 49 = some (.invokevirtual 425, 3) := by decide +kernel
theorem c249_52 : mc_cd 249 52 = some (.iload 4, 2) := by decide +kernel
theorem c249_54 : mc_cd 249 54 = some (.aload_n 0, 1) := by decide +kernel
theorem c249_55 : mc_cd 249 55 = some (.getfield 39, 3) := by decide +kernel
theorem c249_58 : mc_cd 249 58 = some (.iload_n 1, 1) := by decide +kernel
theorem c249_59 : mc_cd 249 59 = some (.iaload, 1) := by decide +kernel
theorem c249_60 : mc_cd 249 60 = some (.iload_n 2, 1) := by decide +kernel
theorem c249_61 : mc_cd 249 61 = some (.if_icmp .ne 7, 3) := by decide +kernel
theorem c249_64 : mc_cd 249 64 = some (.iconst 1, 1) := by decide +kernel
theorem c249_65 : mc_cd 249 65 = some (.goto 4, 3) := by decide +kernel
theorem c249_68 : mc_cd 249 68 = some (.iconst 0, 1) := by decide +kernel
theorem c249_69 : mc_cd 249 69 = some (.iadd, 1) := by decide +kernel
theorem c249_70 : mc_cd 249 70 = some (.istore 4, 2) := by decide +kernel
theorem c249_72 : mc_cd 249 72 = some (.iinc 5 1, 3) := by decide +kernel
theorem c249_75 : mc_cd 249 75 = some (.goto (-43), 3) := by decide +kernel
theorem c249_78 : mc_cd 249 78 = some (.aload_n 0, 1) := by decide +kernel
theorem c249_79 : mc_cd 249 79 = some (.iload 4, 2) := by decide +kernel
theorem c249_81 : mc_cd 249 81 = some (.invokevirtual 58, 3) := by decide +kernel
theorem c249_84 : mc_cd 249 84 = some (.ireturn, 1) := by decide +kernel
/-! StrikeAwakeModel.awakeIn(II)I -/
theorem e251 : wq_en 251 = some (9, 5, false, some FieldType.int) := rfl
theorem c251_0 : mc_cd 251 0 = some (.iconst 0, 1) := by decide +kernel
theorem c251_1 : mc_cd 251 1 = some (.istore_n 3, 1) := by decide +kernel
theorem c251_2 : mc_cd 251 2 = some (.iconst 0, 1) := by decide +kernel
theorem c251_3 : mc_cd 251 3 = some (.istore 4, 2) := by decide +kernel
theorem c251_5 : mc_cd 251 5 = some (.iload 4, 2) := by decide +kernel
theorem c251_7 : mc_cd 251 7 = some (.aload_n 0, 1) := by decide +kernel
theorem c251_8 : mc_cd 251 8 = some (.getfield 422, 3) := by decide +kernel
theorem c251_11 : mc_cd 251 11 = some (.if_icmp .ge 51, 3) := by decide +kernel
theorem c251_14 : mc_cd 251 14 = some (.aload_n 0, 1) := by decide +kernel
theorem c251_15 : mc_cd 251 15 = some (.aload_n 0, 1) := by decide +kernel
theorem c251_16 : mc_cd 251 16 = some (.getfield 42, 3) := by decide +kernel
theorem c251_19 : mc_cd 251 19 = some (.iload 4, 2) := by decide +kernel
theorem c251_21 : mc_cd 251 21 = some (.iaload, 1) := by decide +kernel
theorem c251_22 : mc_cd 251 22 = some (.invokevirtual 425, 3) := by decide +kernel
theorem c251_25 : mc_cd 251 25 = some (.iload_n 3, 1) := by decide +kernel
theorem c251_26 : mc_cd 251 26 = some (.aload_n 0, 1) := by decide +kernel
theorem c251_27 : mc_cd 251 27 = some (.getfield 33, 3) := by decide +kernel
theorem c251_30 : mc_cd 251 30 = some (.bipush 40, 2) := by decide +kernel
theorem c251_32 : mc_cd 251 32 = some (.iload_n 1, 1) := by decide +kernel
theorem c251_33 : mc_cd 251 33 = some (.imul, 1) := by decide +kernel
theorem c251_34 : mc_cd 251 34 = some (.aload_n 0, 1) := by decide +kernel
theorem c251_35 : mc_cd 251 35 = some (.getfield 39, 3) := by decide +kernel
theorem c251_38 : mc_cd 251 38 = some (.iload_n 1, 1) := by decide +kernel
theorem c251_39 : mc_cd 251 39 = some (.iaload, 1) := by decide +kernel
theorem c251_40 : mc_cd 251 40 = some (.iadd, 1) := by decide +kernel
theorem c251_41 : mc_cd 251 41 = some (.iaload, 1) := by decide +kernel
theorem c251_42 : mc_cd 251 42 = some (.iload_n 2, 1) := by decide +kernel
theorem c251_43 : mc_cd 251 43 = some (.invokestatic 346, 3) := by decide +kernel
theorem c251_46 : mc_cd 251 46 = some (.ifCond .eq 7, 3) := by decide +kernel
theorem c251_49 : mc_cd 251 49 = some (.iconst 1, 1) := by decide +kernel
theorem c251_50 : mc_cd 251 50 = some (.goto 4, 3) := by decide +kernel
theorem c251_53 : mc_cd 251 53 = some (.iconst 0, 1) := by decide +kernel
theorem c251_54 : mc_cd 251 54 = some (.iadd, 1) := by decide +kernel
theorem c251_55 : mc_cd 251 55 = some (.istore_n 3, 1) := by decide +kernel
theorem c251_56 : mc_cd 251 56 = some (.iinc 4 1, 3) := by decide +kernel
theorem c251_59 : mc_cd 251 59 = some (.goto (-54), 3) := by decide +kernel
theorem c251_62 : mc_cd 251 62 = some (.iload_n 3, 1) := by decide +kernel
theorem c251_63 : mc_cd 251 63 = some (.ireturn, 1) := by decide +kernel
abbrev q_251 (r0 : Nat) (a1 : Int) (a2 : Int) (pp : Nat) (T : wq_T) (H : wq_H) : Option Value → wq_T → wq_H → Prop := fun r T' H' => T = T' ∧ WT T H' ∧ wfr [(51, 999)] T H H' ∧ ∃ z : Int, some (vI z) = r ∧ ((-2147483648) ≤ z ∧ z ≤ 2147483647)
set_option maxHeartbeats 4000000 in
theorem s_251 {kt : Nat → Option mc_E} {T : wq_T} {H : wq_H} {r0 : Nat} {a1 : Int} {a2 : Int} {pp : Nat} (hW : WT T H) (g0 : T.2.2.2 r0 = some 42) (i1 : 0 ≤ a1 ∧ a1 ≤ 5) (i2 : (-2147483648) ≤ a2 ∧ a2 ≤ 2147483647) (qpp : H r0 3 = (pp : Int)) (gpp : T.2.2.2 pp = some 54) (p0 : H r0 29 = 0 ∨ 0 < wLM H r0) : wpc kt 2 251 [.ref r0, vI a1, vI a2] T H (q_251 r0 a1 a2 pp T H) := by
  refine wp_enter e251 (Nat.le_of_ble_eq_true rfl) rfl ?_
  have f0 : wfr [(51, 999)] T H H := wfr.rf
  show wp _ _ 251 0 [(0, .ref r0), (1, vI a1), (2, vI a2)] [] _ H _
  have b139379 : 0 ≤ H r0 29 ∧ H r0 29 ≤ 20000 := hW.box g0 (n := 33) rfl (by decide) rfl
  refine wp_of e251 c251_0 (rw_iconst (pc' := 1) rfl ?_)
  refine wp_of e251 c251_1 (rw_istore_n (pc' := 2) (z := 0) (L' := [(3, vI 0), (0, .ref r0), (1, vI a1), (2, vI a2)]) rfl rfl rfl ?_)
  refine wp_of e251 c251_2 (rw_iconst (pc' := 3) rfl ?_)
  refine wp_of e251 c251_3 (rw_istore (pc' := 5) (z := 0) (L' := [(4, vI 0), (3, vI 0), (0, .ref r0), (1, vI a1), (2, vI a2)]) rfl rfl rfl ?_)
  have lp139753 : ∀ (n139754 : Nat) (v139756 : Int) (v139757 : Int) (H139758 : wq_H), WT T H139758 → wfr [(51, 999)] T H H139758 → (0 ≤ v139756 ∧ v139756 ≤ 20000) → ((-2147483648) ≤ v139757 ∧ v139757 ≤ 2147483647) → (20000 - v139756).toNat = n139754 → wp kt 1 251 5 [(4, vI v139756), (3, vI v139757), (0, .ref r0), (1, vI a1), (2, vI a2)] [] T H139758 (q_251 r0 a1 a2 pp T H) := by
    intro n139754
    induction n139754 using Nat.strongRecOn with
    | _ n139754 ih139755 =>
      intro v139756 v139757 H139758 w139759 f139760 b139761 b139762 m139763
      have f139764 := f0.tr f139760 rfl
      refine wp_of e251 c251_5 (rw_iload (pc' := 7) (z := v139756) rfl rfl ?_)
      refine wp_of e251 c251_7 (rw_aload_n (pc' := 8) (v := .ref r0) rfl rfl rfl ?_)
      have k139765 : H139758 r0 29 = H r0 29 := (f139760 r0 29 _ g0 rfl)
      refine wp_of e251 c251_8 (xg_I (pc' := 11) lf_9_422 w139759 g0 sh_42 (by decide) (by decide) ty_42_29 rfl rfl (fun b139766 b139767 => ?_))
      refine wp_of e251 c251_11 (rw_icmp_ge (p1 := 62) (p2 := 14) (by decide) rfl ⟨by omega, by omega⟩ ⟨by omega, by omega⟩ (fun c139768 => ?_) (fun c139768 => ?_))
      · refine wp_of e251 c251_62 (rw_iload_n (pc' := 63) (z := v139757) rfl rfl ?_)
        exact wp_ireturn e251 c251_63 rfl ⟨rfl, w139759, f139764, v139757, rfl, ⟨by omega, by omega⟩⟩
      · refine wp_of e251 c251_14 (rw_aload_n (pc' := 15) (v := .ref r0) rfl rfl rfl ?_)
        refine wp_of e251 c251_15 (rw_aload_n (pc' := 16) (v := .ref r0) rfl rfl rfl ?_)
        refine wp_of e251 c251_16 (xg_R (pc' := 19) lf_9_42 w139759 g0 sh_42 (by decide) (by decide) ty_42_30 rfl rfl (fun r139769 q139770 g139771 => ?_))
        refine wp_of e251 c251_19 (rw_iload (pc' := 21) (z := v139756) rfl rfl ?_)
        refine wp_of e251 c251_21 (xa_I (so := 0) (pc' := 22) w139759 g139771 sh_52 (by decide) (ty_52 _) (by omega) (by omega) rfl (fun b139772 b139773 => ?_))
        have k139774 : wLM H139758 r0 = wLM H r0 := (wLM_fr hW g0 f139760 rfl)
        have k139775 : H139758 r0 3 = H r0 3 := (f139760 r0 3 _ g0 rfl)
        have q139776 : H139758 r0 3 = (pp : Int) := k139775.trans qpp
        refine wp_of e251 c251_22 (xc_V (pc' := 25) (r := r0) (as := [vI (H139758 r139769 (v139756.toNat))]) (st := []) (lm_9_425) rfl rfl (Nat.le_of_ble_eq_true rfl) w139759 g0 sh_42 (by decide) rfl (by decide) (s_243 w139759 g0 ⟨by omega, by omega⟩ q139776 gpp (by omega)) (fun R139777 T139778 H139779 p139780 => ?_))
        obtain ⟨e139781, w139783, f139784, e139782⟩ := p139780
        subst e139781
        subst e139782
        have f139785 := f139764.tr f139784 rfl
        have f139786 := f139760.tr f139784 rfl
        show wp _ _ 251 25 [(4, vI v139756), (3, vI v139757), (0, .ref r0), (1, vI a1), (2, vI a2)] [] _ H139779 _
        refine wp_of e251 c251_25 (rw_iload_n (pc' := 26) (z := v139757) rfl rfl ?_)
        refine wp_of e251 c251_26 (rw_aload_n (pc' := 27) (v := .ref r0) rfl rfl rfl ?_)
        refine wp_of e251 c251_27 (xg_R (pc' := 30) lf_9_33 w139783 g0 sh_42 (by decide) (by decide) ty_42_25 rfl rfl (fun r139787 q139788 g139789 => ?_))
        refine wp_of e251 c251_30 (rw_bipush (pc' := 32) (z := 40) rfl (by decide) ?_)
        refine wp_of e251 c251_32 (rw_iload_n (pc' := 33) (z := a1) rfl rfl ?_)
        refine wp_of e251 c251_33 (rw_imul (pc' := 34) rfl ?_)
        refine wp_of e251 c251_34 (rw_aload_n (pc' := 35) (v := .ref r0) rfl rfl rfl ?_)
        refine wp_of e251 c251_35 (xg_R (pc' := 38) lf_9_39 w139783 g0 sh_42 (by decide) (by decide) ty_42_27 rfl rfl (fun r139790 q139791 g139792 => ?_))
        refine wp_of e251 c251_38 (rw_iload_n (pc' := 39) (z := a1) rfl rfl ?_)
        refine wp_of e251 c251_39 (xa_I (so := 0) (pc' := 40) w139783 g139792 sh_51 (by decide) (ty_51 _) (by omega) (by omega) rfl (fun b139793 b139794 => ?_))
        refine wp_of e251 c251_40 (rw_iadd (pc' := 41) rfl ?_)
        refine wp_of e251 c251_41 (xa_I (so := 0) (pc' := 42) w139783 g139789 sh_49 (by decide) (ty_49 _) (by omega) (by omega) rfl (fun b139795 b139796 => ?_))
        refine wp_of e251 c251_42 (rw_iload_n (pc' := 43) (z := a2) rfl rfl ?_)
        refine wp_of e251 c251_43 (xc_S (pc' := 46) (as := [vI (H139779 r139787 (((40 * a1) + (H139779 r139790 (a1.toNat))).toNat)), vI a2]) (st := [vI v139757]) (lm_9_346) rfl rfl (Nat.le_of_ble_eq_true rfl) rfl (by decide) (s_205 w139783 ⟨by omega, by omega⟩ ⟨by omega, by omega⟩) (fun R139797 T139798 H139799 p139800 => ?_))
        obtain ⟨e139801, e139803, z139804, e139802, b139805⟩ := p139800
        subst e139801
        subst e139802
        subst e139803
        show wp _ _ 251 46 [(4, vI v139756), (3, vI v139757), (0, .ref r0), (1, vI a1), (2, vI a2)] [vI z139804, vI v139757] _ H139779 _
        refine wp_of e251 c251_46 (rw_if_eq (p1 := 53) (p2 := 49) (by decide) rfl ⟨by omega, by omega⟩ (fun c139806 => ?_) (fun c139806 => ?_))
        · refine wp_of e251 c251_53 (rw_iconst (pc' := 54) rfl ?_)
          refine wp_of e251 c251_54 (rw_iadd (pc' := 55) rfl ?_)
          refine wp_of e251 c251_55 (rw_istore_n (pc' := 56) (z := v139757 + 0) (L' := [(3, vI (v139757 + 0)), (4, vI v139756), (0, .ref r0), (1, vI a1), (2, vI a2)]) rfl rfl rfl ?_)
          refine wp_of e251 c251_56 (rw_iinc (pc' := 59) (z := v139756) (L' := [(4, vI (v139756 + 1)), (3, vI (v139757 + 0)), (0, .ref r0), (1, vI a1), (2, vI a2)]) rfl rfl rfl rfl ?_)
          refine wp_of e251 c251_59 (rw_goto (p1 := 5) (by decide) ?_)
          exact wp_lc (ks := [4, 3, 0, 1, 2]) (wl_c rfl (wl_c rfl (wl_c rfl (wl_c rfl (wl_c rfl wl_n))))) rfl (by decide) (ih139755 _ (by omega) (v139756 + 1) (v139757 + 0) H139779 w139783 f139786 ⟨by omega, by omega⟩ ⟨by omega, by omega⟩ rfl)
        · refine wp_of e251 c251_49 (rw_iconst (pc' := 50) rfl ?_)
          refine wp_of e251 c251_50 (rw_goto (p1 := 54) (by decide) ?_)
          refine wp_of e251 c251_54 (rw_iaddw (pc' := 55) rfl ?_)
          obtain ⟨v139807, e139808⟩ : ∃ x : Int, x = wq_w (v139757 + 1) := ⟨_, rfl⟩
          rw [← e139808]
          have b139809 : -2147483648 ≤ v139807 ∧ v139807 ≤ 2147483647 := by
            rw [e139808]
            exact wI_w _
          refine wp_of e251 c251_55 (rw_istore_n (pc' := 56) (z := v139807) (L' := [(3, vI v139807), (4, vI v139756), (0, .ref r0), (1, vI a1), (2, vI a2)]) rfl rfl rfl ?_)
          refine wp_of e251 c251_56 (rw_iinc (pc' := 59) (z := v139756) (L' := [(4, vI (v139756 + 1)), (3, vI v139807), (0, .ref r0), (1, vI a1), (2, vI a2)]) rfl rfl rfl rfl ?_)
          refine wp_of e251 c251_59 (rw_goto (p1 := 5) (by decide) ?_)
          exact wp_lc (ks := [4, 3, 0, 1, 2]) (wl_c rfl (wl_c rfl (wl_c rfl (wl_c rfl (wl_c rfl wl_n))))) rfl (by decide) (ih139755 _ (by omega) (v139756 + 1) v139807 H139779 w139783 f139786 ⟨by omega, by omega⟩ ⟨by omega, by omega⟩ rfl)
  exact wp_lc (ks := [4, 3, 0, 1, 2]) (wl_c rfl (wl_c rfl (wl_c rfl (wl_c rfl (wl_c rfl wl_n))))) rfl (by decide) (lp139753 _ 0 0 H hW wfr.rf ⟨by omega, by omega⟩ ⟨by omega, by omega⟩ rfl)
/-! StrikeAwakeModel.times(II)I -/
theorem e250 : wq_en 250 = some (9, 4, false, some FieldType.int) := rfl
theorem c250_0 : mc_cd 250 0 = some (.aload_n 0, 1) := by decide +kernel
theorem c250_1 : mc_cd 250 1 = some (.iconst 0, 1) := by decide +kernel
theorem c250_2 : mc_cd 250 2 = some (.putfield 48, 3) := by decide +kernel
theorem c250_5 : mc_cd 250 5 = some (.aload_n 0, 1) := by decide +kernel
theorem c250_6 : mc_cd 250 6 = some (.aload_n 0, 1) := by decide +kernel
theorem c250_7 : mc_cd 250 7 = some (.iload_n 1, 1) := by decide +kernel
theorem c250_8 : mc_cd 250 8 = some (.invokevirtual 364, 3) := by decide +kernel
theorem c250_11 : mc_cd 250 11 = some (.ifCond .eq 15, 3) := by decide +kernel
theorem c250_14 : mc_cd 250 14 = some (.aload_n 0, 1) := by decide +kernel
theorem c250_15 : mc_cd 250 15 = some (.iload_n 2, 1) := by decide +kernel
theorem c250_16 : mc_cd 250 16 = some (.invokevirtual 373, 3) := by decide +kernel
theorem c250_19 : mc_cd 250 19 = some (.ifCond .eq 7, 3) := by decide +kernel
theorem c250_22 : mc_cd 250 22 = some (.iconst 1, 1) := by decide +kernel
theorem c250_23 : mc_cd 250 23 = some (.goto 4, 3) := by decide +kernel
theorem c250_26 : mc_cd 250 26 = some (.iconst 0, 1) := by decide +kernel
theorem c250_27 : mc_cd 250 27 = some (.invokevirtual 433, 3) := by decide +kernel
theorem c250_30 : mc_cd 250 30 = some (.istore_n 3, 1) := by decide +kernel
theorem c250_31 : mc_cd 250 31 = some (.iload_n 3, 1) := by decide +kernel
theorem c250_32 : mc_cd 250 32 = some (.ifCond .le 11, 3) := by decide +kernel
theorem c250_35 : mc_cd 250 35 = some (.aload_n 0, 1) := by decide +kernel
theorem c250_36 : mc_cd 250 36 = some (.iload_n 3, 1) := by decide +kernel
theorem c250_37 : mc_cd 250 37 = some (.invokevirtual 54, 3) := by decide +kernel
theorem c250_40 : mc_cd 250 40 = some (.goto 13, 3) := by decide +kernel
theorem c250_43 : mc_cd 250 43 = some (.aload_n 0, 1) := by decide +kernel
theorem c250_44 : mc_cd 250 44 = some (.aload_n 0, 1) := by decide +kernel
theorem c250_45 : mc_cd 250 45 = some (.iload_n 1, 1) := by decide +kernel
theorem c250_46 : mc_cd 250 46 = some (.iload_n 2, 1) := by decide +kernel
theorem c250_47 : mc_cd 250 47 = some (.invokevirtual 444, 3) := by decide +kernel
theorem c250_50 : mc_cd 250 50 = some (.invokevirtual 58, 3) := by decide +kernel
theorem c250_53 : mc_cd 250 53 = some (.ireturn, 1) := by decide +kernel
/-! StrikeAwakeModel.refusesSome(Z)I -/
theorem e253 : wq_en 253 = some (9, 3, false, some FieldType.int) := rfl
theorem c253_0 : mc_cd 253 0 = some (.aload_n 0, 1) := by decide +kernel
theorem c253_1 : mc_cd 253 1 = some (.iload_n 1, 1) := by decide +kernel
theorem c253_2 : mc_cd 253 2 = some (.invokevirtual 433, 3) := by decide +kernel
theorem c253_5 : mc_cd 253 5 = some (.istore_n 2, 1) := by decide +kernel
theorem c253_6 : mc_cd 253 6 = some (.iload_n 2, 1) := by decide +kernel
theorem c253_7 : mc_cd 253 7 = some (.ifCond .ne 15, 3) := by decide +kernel
theorem c253_10 : mc_cd 253 10 = some (.aload_n 0, 1) := by decide +kernel
theorem c253_11 : mc_cd 253 11 = some (.getfield 422, 3) := by decide +kernel
theorem c253_14 : mc_cd 253 14 = some (.ifCond .ne 8, 3) := by decide +kernel
theorem c253_17 : mc_cd 253 17 = some (.bipush 6, 2) := by decide +kernel
theorem c253_19 : mc_cd 253 19 = some (.goto 4, 3) := by decide +kernel
theorem c253_22 : mc_cd 253 22 = some (.iload_n 2, 1) := by decide +kernel
theorem c253_23 : mc_cd 253 23 = some (.ireturn, 1) := by decide +kernel
/-! StrikeAwakeModel.sure(II)I -/
theorem e252 : wq_en 252 = some (9, 5, false, some FieldType.int) := rfl
theorem c252_0 : mc_cd 252 0 = some (.aload_n 0, 1) := by decide +kernel
theorem c252_1 : mc_cd 252 1 = some (.iconst 0, 1) := by decide +kernel
theorem c252_2 : mc_cd 252 2 = some (.putfield 48, 3) := by decide +kernel
theorem c252_5 : mc_cd 252 5 = some (.aload_n 0, 1) := by decide +kernel
theorem c252_6 : mc_cd 252 6 = some (.aload_n 0, 1) := by decide +kernel
theorem c252_7 : mc_cd 252 7 = some (.iload_n 1, 1) := by decide +kernel
theorem c252_8 : mc_cd 252 8 = some (.invokevirtual 364, 3) := by decide +kernel
theorem c252_11 : mc_cd 252 11 = some (.ifCond .eq 15, 3) := by decide +kernel
theorem c252_14 : mc_cd 252 14 = some (.aload_n 0, 1) := by decide +kernel
theorem c252_15 : mc_cd 252 15 = some (.iload_n 2, 1) := by decide +kernel
theorem c252_16 : mc_cd 252 16 = some (.invokevirtual 373, 3) := by decide +kernel
theorem c252_19 : mc_cd 252 19 = some (.ifCond .eq 7, 3) := by decide +kernel
theorem c252_22 : mc_cd 252 22 = some (.iconst 1, 1) := by decide +kernel
theorem c252_23 : mc_cd 252 23 = some (.goto 4, 3) := by decide +kernel
theorem c252_26 : mc_cd 252 26 = some (.iconst 0, 1) := by decide +kernel
theorem c252_27 : mc_cd 252 27 = some (.invokevirtual 447, 3) := by decide +kernel
theorem c252_30 : mc_cd 252 30 = some (.istore_n 3, 1) := by decide +kernel
theorem c252_31 : mc_cd 252 31 = some (.iload_n 3, 1) := by decide +kernel
theorem c252_32 : mc_cd 252 32 = some (.ifCond .le 9, 3) := by decide +kernel
theorem c252_35 : mc_cd 252 35 = some (.aload_n 0, 1) := by decide +kernel
theorem c252_36 : mc_cd 252 36 = some (.iload_n 3, 1) := by decide +kernel
theorem c252_37 : mc_cd 252 37 = some (.invokevirtual 54, 3) := by decide +kernel
theorem c252_40 : mc_cd 252 40 = some (.ireturn, 1) := by decide +kernel
theorem c252_41 : mc_cd 252 41 = some (.aload_n 0, 1) := by decide +kernel
theorem c252_42 : mc_cd 252 42 = some (.iload_n 1, 1) := by decide +kernel
theorem c252_43 : mc_cd 252 43 = some (.iload_n 2, 1) := by decide +kernel
theorem c252_44 : mc_cd 252 44 = some (.invokevirtual 444, 3) := by decide +kernel
theorem c252_47 : mc_cd 252 47 = some (.istore 4, 2) := by decide +kernel
theorem c252_49 : mc_cd 252 49 = some (.aload_n 0, 1) := by decide +kernel
theorem c252_50 : mc_cd 252 50 = some (.iload 4, 2) := by decide +kernel
theorem c252_52 : mc_cd 252 52 = some (.aload_n 0, 1) := by decide +kernel
theorem c252_53 : mc_cd 252 53 = some (.getfield 422, 3) := by decide +kernel
theorem c252_56 : mc_cd 252 56 = some (.if_icmp .ne 7, 3) := by decide +kernel
theorem c252_59 : mc_cd 252 59 = some (.iconst 2, 1) := by decide +kernel
theorem c252_60 : mc_cd 252 60 = some (.goto 13, 3) := by decide +kernel
theorem c252_63 : mc_cd 252 63 = some (.iload 4, 2) := by decide +kernel
theorem c252_65 : mc_cd 252 65 = some (.ifCond .ne 7, 3) := by decide +kernel
theorem c252_68 : mc_cd 252 68 = some (.iconst 0, 1) := by decide +kernel
theorem c252_69 : mc_cd 252 69 = some (.goto 4, 3) := by decide +kernel
theorem c252_72 : mc_cd 252 72 = some (.iconst 1, 1) := by decide +kernel
theorem c252_73 : mc_cd 252 73 = some (.invokevirtual 58, 3) := by decide +kernel
theorem c252_76 : mc_cd 252 76 = some (.ireturn, 1) := by decide +kernel
/-! StrikeAwakeModel.surely(IZ)I -/
theorem e254 : wq_en 254 = some (9, 6, false, some FieldType.int) := rfl
theorem c254_0 : mc_cd 254 0 = some (.aload_n 0, 1) := by decide +kernel
theorem c254_1 : mc_cd 254 1 = some (.iconst 0, 1) := by decide +kernel
theorem c254_2 : mc_cd 254 2 = some (.putfield 48, 3) := by decide +kernel
theorem c254_5 : mc_cd 254 5 = some (.aload_n 0, 1) := by decide +kernel
theorem c254_6 : mc_cd 254 6 = some (.aload_n 0, 1) := by decide +kernel
theorem c254_7 : mc_cd 254 7 = some (.iload_n 1, 1) := by decide +kernel
theorem c254_8 : mc_cd 254 8 = some (.invokevirtual 373, 3) := by decide +kernel
theorem c254_11 : mc_cd 254 11 = some (.invokevirtual 447, 3) := by decide +kernel
theorem c254_14 : mc_cd 254 14 = some (.istore_n 3, 1) := by decide +kernel
theorem c254_15 : mc_cd 254 15 = some (.iload_n 3, 1) := by decide +kernel
theorem c254_16 : mc_cd 254 16 = some (.ifCond .le 9, 3) := by decide +kernel
theorem c254_19 : mc_cd 254 19 = some (.aload_n 0, 1) := by decide +kernel
theorem c254_20 : mc_cd 254 20 = some (.iload_n 3, 1) := by decide +kernel
theorem c254_21 : mc_cd 254 21 = some (.invokevirtual 54, 3) := by decide +kernel
theorem c254_24 : mc_cd 254 24 = some (.ireturn, 1) := by decide +kernel
theorem c254_25 : mc_cd 254 25 = some (.iconst 0, 1) := by decide +kernel
theorem c254_26 : mc_cd 254 26 = some (.istore 4, 2) := by decide +kernel
theorem c254_28 : mc_cd 254 28 = some (.iconst 0, 1) := by decide +kernel
theorem c254_29 : mc_cd 254 29 = some (.istore 5, 2) := by decide +kernel
theorem c254_31 : mc_cd 254 31 = some (.iload 5, 2) := by decide +kernel
theorem c254_33 : mc_cd 254 33 = some (.aload_n 0, 1) := by decide +kernel
theorem c254_34 : mc_cd 254 34 = some (.getfield 337, 3) := by decide +kernel
theorem c254_37 : mc_cd 254 37 = some (.getfield 188, 3) := by decide +kernel
theorem c254_40 : mc_cd 254 40 = some (.if_icmp .ge 44, 3) := by decide +kernel
theorem c254_43 : mc_cd 254 43 = some (.iload 4, 2) := by decide +kernel
theorem c254_45 : mc_cd 254 45 = some (.aload_n 0, 1) := by decide +kernel
theorem c254_46 : mc_cd 254 46 = some (.iload 5, 2) := by decide +kernel
theorem c254_48 : mc_cd 254 48 = some (.iload_n 1, 1) := by decide +kernel
theorem c254_49 : mc_cd 254 49 = some (.invokevirtual 444, 3) := by decide +kernel
theorem c254_52 : mc_cd 254 52 = some (.iload_n 2, 1) := by decide +kernel
theorem c254_53 : mc_cd 254 53 = some (.ifCond .eq 10, 3) := by decide +kernel
theorem c254_56 : mc_cd 254 56 = some (.aload_n 0, 1) := by decide +kernel
theorem c254_57 : mc_cd 254 57 = some (.getfield 422, 3) := by decide +kernel
theorem c254_60 : mc_cd 254 60 = some (.goto 4, 3) := by decide +kernel
theorem c254_63 : mc_cd 254 63 = some (.iconst 0, 1) := by decide +kernel
theorem c254_64 : mc_cd 254 64 = some (.if_icmp .ne 10, 3) := by decide +kernel
theorem c254_67 : mc_cd 254 67 = some (.iconst 1, 1) := by decide +kernel
theorem c254_68 : mc_cd 254 68 = some (.iload 5, 2) := by decide +kernel
theorem c254_70 : mc_cd 254 70 = some (.ishl, 1) := by decide +kernel
theorem c254_71 : mc_cd 254 71 = some (.goto 4, 3) := by decide +kernel
theorem c254_74 : mc_cd 254 74 = some (.iconst 0, 1) := by decide +kernel
theorem c254_75 : mc_cd 254 75 = some (.ior, 1) := by decide +kernel
theorem c254_76 : mc_cd 254 76 = some (.istore 4, 2) := by decide +kernel
theorem c254_78 : mc_cd 254 78 = some (.iinc 5 1, 3) := by decide +kernel
theorem c254_81 : mc_cd 254 81 = some (.goto (-50), 3) := by decide +kernel
theorem c254_84 : mc_cd 254 84 = some (.aload_n 0, 1) := by decide +kernel
theorem c254_85 : mc_cd 254 85 = some (.iload 4, 2) := by decide +kernel
theorem c254_87 : mc_cd 254 87 = some (.invokevirtual 58, 3) := by decide +kernel
theorem c254_90 : mc_cd 254 90 = some (.ireturn, 1) := by decide +kernel
/-! StrikeAwakeModel.chance(II)I -/
theorem e255 : wq_en 255 = some (9, 4, false, some FieldType.int) := rfl
theorem c255_0 : mc_cd 255 0 = some (.aload_n 0, 1) := by decide +kernel
theorem c255_1 : mc_cd 255 1 = some (.iconst 0, 1) := by decide +kernel
theorem c255_2 : mc_cd 255 2 = some (.putfield 48, 3) := by decide +kernel
theorem c255_5 : mc_cd 255 5 = some (.aload_n 0, 1) := by decide +kernel
theorem c255_6 : mc_cd 255 6 = some (.aload_n 0, 1) := by decide +kernel
theorem c255_7 : mc_cd 255 7 = some (.iload_n 1, 1) := by decide +kernel
theorem c255_8 : mc_cd 255 8 = some (.invokevirtual 364, 3) := by decide +kernel
theorem c255_11 : mc_cd 255 11 = some (.ifCond .eq 15, 3) := by decide +kernel
theorem c255_14 : mc_cd 255 14 = some (.aload_n 0, 1) := by decide +kernel
theorem c255_15 : mc_cd 255 15 = some (.iload_n 2, 1) := by decide +kernel
theorem c255_16 : mc_cd 255 16 = some (.invokevirtual 373, 3) := by decide +kernel
theorem c255_19 : mc_cd 255 19 = some (.ifCond .eq 7, 3) := by decide +kernel
theorem c255_22 : mc_cd 255 22 = some (.iconst 1, 1) := by decide +kernel
theorem c255_23 : mc_cd 255 23 = some (.goto 4, 3) := by decide +kernel
theorem c255_26 : mc_cd 255 26 = some (.iconst 0, 1) := by decide +kernel
theorem c255_27 : mc_cd 255 27 = some (.invokevirtual 447, 3) := by decide +kernel
theorem c255_30 : mc_cd 255 30 = some (.istore_n 3, 1) := by decide +kernel
theorem c255_31 : mc_cd 255 31 = some (.iload_n 3, 1) := by decide +kernel
theorem c255_32 : mc_cd 255 32 = some (.ifCond .le 11, 3) := by decide +kernel
theorem c255_35 : mc_cd 255 35 = some (.aload_n 0, 1) := by decide +kernel
theorem c255_36 : mc_cd 255 36 = some (.iload_n 3, 1) := by decide +kernel
theorem c255_37 : mc_cd 255 37 = some (.invokevirtual 54, 3) := by decide +kernel
theorem c255_40 : mc_cd 255 40 = some (.goto 25, 3) := by decide +kernel
theorem c255_43 : mc_cd 255 43 = some (.aload_n 0, 1) := by decide +kernel
theorem c255_44 : mc_cd 255 44 = some (.ldc2_w 450, 3) := by decide +kernel
theorem c255_47 : mc_cd 255 47 = some (.aload_n 0, 1) := by decide +kernel
theorem c255_48 : mc_cd 255 48 = some (.iload_n 1, 1) := by decide +kernel
theorem c255_49 : mc_cd 255 49 = some (.iload_n 2, 1) := by decide +kernel
theorem c255_50 : mc_cd 255 50 = some (.invokevirtual 440, 3) := by decide +kernel
theorem c255_53 : mc_cd 255 53 = some (.lmul, 1) := by decide +kernel
theorem c255_54 : mc_cd 255 54 = some (.aload_n 0, 1) := by decide +kernel
theorem c255_55 : mc_cd 255 55 = some (.iconst (-1), 1) := by decide +kernel
theorem c255_56 : mc_cd 255 56 = some (.iconst 0, 1) := by decide +kernel
theorem c255_57 : mc_cd 255 57 = some (.invokevirtual 440, 3) := by decide +kernel
theorem c255_60 : mc_cd 255 60 = some (.ldiv, 1) := by decide +kernel
theorem c255_61 : mc_cd 255 61 = some (.l2i, 1) := by decide +kernel
theorem c255_62 : mc_cd 255 62 = some (.invokevirtual 58, 3) := by decide +kernel
theorem c255_65 : mc_cd 255 65 = some (.ireturn, 1) := by decide +kernel
/-! StrikeAwakeModel.findLikeliest()J -/
theorem e257 : wq_en 257 = some (9, 5, false, some FieldType.long) := rfl
theorem c257_0 : mc_cd 257 0 = some (.iconst (-1), 1) := by decide +kernel
theorem c257_1 : mc_cd 257 1 = some (.istore_n 1, 1) := by decide +kernel
theorem c257_2 : mc_cd 257 2 = some (.lconst 0, 1) := by decide +kernel
theorem c257_3 : mc_cd 257 3 = some (.lstore_n 2, 1) := by decide +kernel
theorem c257_4 : mc_cd 257 4 = some (.iconst 0, 1) := by decide +kernel
theorem c257_5 : mc_cd 257 5 = some (.istore 4, 2) := by decide +kernel
theorem c257_7 : mc_cd 257 7 = some (.iload 4, 2) := by decide +kernel
theorem c257_9 : mc_cd 257 9 = some (.aload_n 0, 1) := by decide +kernel
theorem c257_10 : mc_cd 257 10 = some (.getfield 422, 3) := by decide +kernel
theorem c257_13 : mc_cd 257 13 = some (.if_icmp .ge 40, 3) := by decide +kernel
theorem c257_16 : mc_cd 257 16 = some (.aload_n 0, 1) := by decide +kernel
theorem c257_17 : mc_cd 257 17 = some (.aload_n 0, 1) := by decide +kernel
theorem c257_18 : mc_cd 257 18 = some (.getfield 42, 3) := by decide +kernel
theorem c257_21 : mc_cd 257 21 = some (.iload 4, 2) := by decide +kernel
theorem c257_23 : mc_cd 257 23 = some (.iaload, 1) := by decide +kernel
theorem c257_24 : mc_cd 257 24 = some (.invokevirtual 425, 3) := by decide +kernel
theorem c257_27 : mc_cd 257 27 = some (.aload_n 0, 1) := by decide +kernel
theorem c257_28 : mc_cd 257 28 = some (.invokevirtual 437, 3) := by decide +kernel
theorem c257_31 : mc_cd 257 31 = some (.lload_n 2, 1) := by decide +kernel
theorem c257_32 : mc_cd 257 32 = some (.lcmp, 1) := by decide +kernel
theorem c257_33 : mc_cd 257 33 = some (.ifCond .gt 6, 3) := by decide +kernel
theorem c257_36 : mc_cd 257 36 = some (.goto 11, 3) := by decide +kernel
theorem c257_39 : mc_cd 257 39 = some (.aload_n 0, 1) := by decide +kernel
theorem c257_40 : mc_cd 257 40 = some (.invokevirtual 437, 3) := by decide +kernel
theorem c257_43 : mc_cd 257 43 = some (.lstore_n 2, 1) := by decide +kernel
theorem c257_44 : mc_cd 257 44 = some (.iload 4, 2) := by decide +kernel
theorem c257_46 : mc_cd 257 46 = some (.istore_n 1, 1) := by decide +kernel
theorem c257_47 : mc_cd 257 47 = some (.iinc 4 1, 3) := by decide +kernel
theorem c257_50 : mc_cd 257 50 = some (.goto (-43), 3) := by decide +kernel
theorem c257_53 : mc_cd 257 53 = some (.aload_n 0, 1) := by decide +kernel
theorem c257_54 : mc_cd 257 54 = some (.aload_n 0, 1) := by decide +kernel
theorem c257_55 : mc_cd 257 55 = some (.getfield 42, 3) := by decide +kernel
theorem c257_58 : mc_cd 257 58 = some (.iload_n 1, 1) := by decide +kernel
theorem c257_59 : mc_cd 257 59 = some (.iaload, 1) := by decide +kernel
theorem c257_60 : mc_cd 257 60 = some (.invokevirtual 425, 3) := by decide +kernel
theorem c257_63 : mc_cd 257 63 = some (.lload_n 2, 1) := by decide +kernel
theorem c257_64 : mc_cd 257 64 = some (.lreturn, 1) := by decide +kernel
abbrev q_257 (r0 : Nat) (pp : Nat) (T : wq_T) (H : wq_H) : Option Value → wq_T → wq_H → Prop := fun r T' H' => T = T' ∧ WT T H' ∧ wfr [(51, 999)] T H H' ∧ ∃ z : Int, some (vL z) = r ∧ (0 ≤ z ∧ z ≤ 1000000)
set_option maxHeartbeats 4000000 in
theorem s_257 {kt : Nat → Option mc_E} {T : wq_T} {H : wq_H} {r0 : Nat} {pp : Nat} (hW : WT T H) (g0 : T.2.2.2 r0 = some 42) (qpp : H r0 3 = (pp : Int)) (gpp : T.2.2.2 pp = some 54) (p0 : H r0 29 = 0 ∨ 0 < wLM H r0) (p1 : 0 < H r0 29) : wpc kt 3 257 [.ref r0] T H (q_257 r0 pp T H) := by
  refine wp_enter e257 (Nat.le_of_ble_eq_true rfl) rfl ?_
  have f0 : wfr [(51, 999)] T H H := wfr.rf
  show wp _ _ 257 0 [(0, .ref r0)] [] _ H _
  have b141942 : 0 ≤ H r0 29 ∧ H r0 29 ≤ 20000 := hW.box g0 (n := 33) rfl (by decide) rfl
  refine wp_of e257 c257_0 (rw_iconst (pc' := 1) rfl ?_)
  refine wp_of e257 c257_1 (rw_istore_n (pc' := 2) (z := -1) (L' := [(1, vI (-1)), (0, .ref r0)]) rfl rfl rfl ?_)
  refine wp_of e257 c257_2 (rw_lconst (pc' := 3) (z := 0) rfl rfl ?_)
  refine wp_of e257 c257_3 (rw_lstore_n (pc' := 4) (z := 0) (L' := [(2, vL 0), (1, vI (-1)), (0, .ref r0)]) rfl rfl rfl ?_)
  refine wp_of e257 c257_4 (rw_iconst (pc' := 5) rfl ?_)
  refine wp_of e257 c257_5 (rw_istore (pc' := 7) (z := 0) (L' := [(4, vI 0), (2, vL 0), (1, vI (-1)), (0, .ref r0)]) rfl rfl rfl ?_)
  have lp142287 : ∀ (n142288 : Nat) (v142290 : Int) (v142291 : Int) (v142292 : Int) (H142293 : wq_H), WT T H142293 → wfr [(51, 999)] T H H142293 → (0 ≤ v142290 ∧ v142290 ≤ 20000) → (0 ≤ v142291 ∧ v142291 ≤ 1000000) → ((-1) ≤ v142292 ∧ v142292 ≤ 19999) → (v142290 ≤ H142293 r0 29) → (0 ≤ v142292 ∨ (v142290 = 0 ∧ v142291 = 0)) → (20000 - v142290).toNat = n142288 → wp kt 2 257 7 [(4, vI v142290), (2, vL v142291), (1, vI v142292), (0, .ref r0)] [] T H142293 (q_257 r0 pp T H) := by
    intro n142288
    induction n142288 using Nat.strongRecOn with
    | _ n142288 ih142289 =>
      intro v142290 v142291 v142292 H142293 w142294 f142295 b142296 b142297 b142298 x142299 x142300 m142301
      have f142302 := f0.tr f142295 rfl
      have k142303 : H142293 r0 29 = H r0 29 := (f142295 r0 29 _ g0 rfl)
      refine wp_of e257 c257_7 (rw_iload (pc' := 9) (z := v142290) rfl rfl ?_)
      refine wp_of e257 c257_9 (rw_aload_n (pc' := 10) (v := .ref r0) rfl rfl rfl ?_)
      refine wp_of e257 c257_10 (xg_I (pc' := 13) lf_9_422 w142294 g0 sh_42 (by decide) (by decide) ty_42_29 rfl rfl (fun b142304 b142305 => ?_))
      refine wp_of e257 c257_13 (rw_icmp_ge (p1 := 53) (p2 := 16) (by decide) rfl ⟨by omega, by omega⟩ ⟨by omega, by omega⟩ (fun c142306 => ?_) (fun c142306 => ?_))
      · refine wp_of e257 c257_53 (rw_aload_n (pc' := 54) (v := .ref r0) rfl rfl rfl ?_)
        refine wp_of e257 c257_54 (rw_aload_n (pc' := 55) (v := .ref r0) rfl rfl rfl ?_)
        refine wp_of e257 c257_55 (xg_R (pc' := 58) lf_9_42 w142294 g0 sh_42 (by decide) (by decide) ty_42_30 rfl rfl (fun r142307 q142308 g142309 => ?_))
        refine wp_of e257 c257_58 (rw_iload_n (pc' := 59) (z := v142292) rfl rfl ?_)
        refine wp_of e257 c257_59 (xa_I (so := 0) (pc' := 60) w142294 g142309 sh_52 (by decide) (ty_52 _) (by omega) (by omega) rfl (fun b142310 b142311 => ?_))
        have k142312 : wLM H142293 r0 = wLM H r0 := (wLM_fr hW g0 f142295 rfl)
        have k142313 : H142293 r0 3 = H r0 3 := (f142295 r0 3 _ g0 rfl)
        have q142314 : H142293 r0 3 = (pp : Int) := k142313.trans qpp
        refine wp_of e257 c257_60 (xc_V (pc' := 63) (r := r0) (as := [vI (H142293 r142307 (v142292.toNat))]) (st := []) (lm_9_425) rfl rfl (Nat.le_of_ble_eq_true rfl) w142294 g0 sh_42 (by decide) rfl (by decide) (s_243 w142294 g0 ⟨by omega, by omega⟩ q142314 gpp (by omega)) (fun R142315 T142316 H142317 p142318 => ?_))
        obtain ⟨e142319, w142321, f142322, e142320⟩ := p142318
        subst e142319
        subst e142320
        have f142323 := f142302.tr f142322 rfl
        show wp _ _ 257 63 [(4, vI v142290), (2, vL v142291), (1, vI v142292), (0, .ref r0)] [] _ H142317 _
        refine wp_of e257 c257_63 (rw_lload_n (pc' := 64) (z := v142291) rfl rfl ?_)
        exact wp_lreturn e257 c257_64 rfl ⟨rfl, w142321, f142323, v142291, rfl, ⟨by omega, by omega⟩⟩
      · refine wp_of e257 c257_16 (rw_aload_n (pc' := 17) (v := .ref r0) rfl rfl rfl ?_)
        refine wp_of e257 c257_17 (rw_aload_n (pc' := 18) (v := .ref r0) rfl rfl rfl ?_)
        refine wp_of e257 c257_18 (xg_R (pc' := 21) lf_9_42 w142294 g0 sh_42 (by decide) (by decide) ty_42_30 rfl rfl (fun r142324 q142325 g142326 => ?_))
        refine wp_of e257 c257_21 (rw_iload (pc' := 23) (z := v142290) rfl rfl ?_)
        refine wp_of e257 c257_23 (xa_I (so := 0) (pc' := 24) w142294 g142326 sh_52 (by decide) (ty_52 _) (by omega) (by omega) rfl (fun b142327 b142328 => ?_))
        have k142329 : wLM H142293 r0 = wLM H r0 := (wLM_fr hW g0 f142295 rfl)
        have k142330 : H142293 r0 3 = H r0 3 := (f142295 r0 3 _ g0 rfl)
        have q142331 : H142293 r0 3 = (pp : Int) := k142330.trans qpp
        refine wp_of e257 c257_24 (xc_V (pc' := 27) (r := r0) (as := [vI (H142293 r142324 (v142290.toNat))]) (st := []) (lm_9_425) rfl rfl (Nat.le_of_ble_eq_true rfl) w142294 g0 sh_42 (by decide) rfl (by decide) (s_243 w142294 g0 ⟨by omega, by omega⟩ q142331 gpp (by omega)) (fun R142332 T142333 H142334 p142335 => ?_))
        obtain ⟨e142336, w142338, f142339, e142337⟩ := p142335
        subst e142336
        subst e142337
        have f142340 := f142302.tr f142339 rfl
        have f142341 := f142295.tr f142339 rfl
        show wp _ _ 257 27 [(4, vI v142290), (2, vL v142291), (1, vI v142292), (0, .ref r0)] [] _ H142334 _
        refine wp_of e257 c257_27 (rw_aload_n (pc' := 28) (v := .ref r0) rfl rfl rfl ?_)
        have k142342 : H142334 r0 3 = H142293 r0 3 := (f142339 r0 3 _ g0 rfl)
        have q142343 : H142334 r0 3 = (pp : Int) := k142342.trans q142331
        refine wp_of e257 c257_28 (xc_V (pc' := 31) (r := r0) (as := []) (st := []) (lm_9_437) rfl rfl (Nat.le_of_ble_eq_true rfl) w142338 g0 sh_42 (by decide) rfl (by decide) (s_248 w142338 g0 q142343 gpp) (fun R142344 T142345 H142346 p142347 => ?_))
        obtain ⟨e142348, e142350, z142351, e142349, b142352⟩ := p142347
        subst e142348
        subst e142349
        subst e142350
        show wp _ _ 257 31 [(4, vI v142290), (2, vL v142291), (1, vI v142292), (0, .ref r0)] [vL z142351] _ H142334 _
        refine wp_of e257 c257_31 (rw_lload_n (pc' := 32) (z := v142291) rfl rfl ?_)
        refine wp_of e257 c257_32 (rw_lcmp (pc' := 33) rfl ⟨by omega, by omega⟩ ⟨by omega, by omega⟩ ?_)
        have b142353 := wq_cmp_b z142351 v142291
        refine wp_of e257 c257_33 (rw_if_gt (p1 := 39) (p2 := 36) (by decide) rfl ⟨by omega, by omega⟩ (fun c142354 => ?_) (fun c142354 => ?_))
        · refine wp_of e257 c257_39 (rw_aload_n (pc' := 40) (v := .ref r0) rfl rfl rfl ?_)
          refine wp_of e257 c257_40 (xc_V (pc' := 43) (r := r0) (as := []) (st := []) (lm_9_437) rfl rfl (Nat.le_of_ble_eq_true rfl) w142338 g0 sh_42 (by decide) rfl (by decide) (s_248 w142338 g0 q142343 gpp) (fun R142355 T142356 H142357 p142358 => ?_))
          obtain ⟨e142359, e142361, z142362, e142360, b142363⟩ := p142358
          subst e142359
          subst e142360
          subst e142361
          show wp _ _ 257 43 [(4, vI v142290), (2, vL v142291), (1, vI v142292), (0, .ref r0)] [vL z142362] _ H142334 _
          refine wp_of e257 c257_43 (rw_lstore_n (pc' := 44) (z := z142362) (L' := [(2, vL z142362), (4, vI v142290), (1, vI v142292), (0, .ref r0)]) rfl rfl rfl ?_)
          refine wp_of e257 c257_44 (rw_iload (pc' := 46) (z := v142290) rfl rfl ?_)
          refine wp_of e257 c257_46 (rw_istore_n (pc' := 47) (z := v142290) (L' := [(1, vI v142290), (2, vL z142362), (4, vI v142290), (0, .ref r0)]) rfl rfl rfl ?_)
          refine wp_of e257 c257_47 (rw_iinc (pc' := 50) (z := v142290) (L' := [(4, vI (v142290 + 1)), (1, vI v142290), (2, vL z142362), (0, .ref r0)]) rfl rfl rfl rfl ?_)
          refine wp_of e257 c257_50 (rw_goto (p1 := 7) (by decide) ?_)
          have k142364 : H142334 r0 29 = H142293 r0 29 := (f142339 r0 29 _ g0 rfl)
          exact wp_lc (ks := [4, 1, 2, 0]) (wl_c rfl (wl_c rfl (wl_c rfl (wl_c rfl wl_n)))) rfl (by decide) (ih142289 _ (by omega) (v142290 + 1) z142362 v142290 H142334 w142338 f142341 ⟨by omega, by omega⟩ ⟨by omega, by omega⟩ ⟨by omega, by omega⟩ (by omega) (by omega) rfl)
        · refine wp_of e257 c257_36 (rw_goto (p1 := 47) (by decide) ?_)
          refine wp_of e257 c257_47 (rw_iinc (pc' := 50) (z := v142290) (L' := [(4, vI (v142290 + 1)), (2, vL v142291), (1, vI v142292), (0, .ref r0)]) rfl rfl rfl rfl ?_)
          refine wp_of e257 c257_50 (rw_goto (p1 := 7) (by decide) ?_)
          have k142365 : H142334 r0 29 = H142293 r0 29 := (f142339 r0 29 _ g0 rfl)
          exact wp_lc (ks := [4, 2, 1, 0]) (wl_c rfl (wl_c rfl (wl_c rfl (wl_c rfl wl_n)))) rfl (by decide) (ih142289 _ (by omega) (v142290 + 1) v142291 v142292 H142334 w142338 f142341 ⟨by omega, by omega⟩ ⟨by omega, by omega⟩ ⟨by omega, by omega⟩ (by omega) (by omega) rfl)
  exact wp_lc (ks := [4, 2, 1, 0]) (wl_c rfl (wl_c rfl (wl_c rfl (wl_c rfl wl_n)))) rfl (by decide) (lp142287 _ 0 0 (-1) H hW wfr.rf ⟨by omega, by omega⟩ ⟨by omega, by omega⟩ ⟨by omega, by omega⟩ (by omega) (by omega) rfl)
