/-! methods of the reference (own work, written by wip/gen2/sx.py) -/
/-! StrikeAwakeModel.having(II)I -/
theorem e249 : wq_en 249 = some (9, 6, false, some FieldType.int) := rfl
theorem cg249_0 : mc_cd 249 0 = some (.aload_n 0, 1) ∧ mc_cd 249 1 = some (.iconst 0, 1) ∧ mc_cd 249 2 = some (.putfield 48, 3) ∧ mc_cd 249 5 = some (.aload_n 0, 1) ∧ mc_cd 249 6 = some (.aload_n 0, 1) ∧ mc_cd 249 7 = some (.iload_n 1, 1) ∧ mc_cd 249 8 = some (.iload_n 2, 1) ∧ mc_cd 249 9 = some (.invokevirtual 367, 3) := by decide +kernel
theorem c249_0 : mc_cd 249 0 = some (.aload_n 0, 1) := cg249_0.1
theorem c249_1 : mc_cd 249 1 = some (.iconst 0, 1) := cg249_0.2.1
theorem c249_2 : mc_cd 249 2 = some (.putfield 48, 3) := cg249_0.2.2.1
theorem c249_5 : mc_cd 249 5 = some (.aload_n 0, 1) := cg249_0.2.2.2.1
theorem c249_6 : mc_cd 249 6 = some (.aload_n 0, 1) := cg249_0.2.2.2.2.1
theorem c249_7 : mc_cd 249 7 = some (.iload_n 1, 1) := cg249_0.2.2.2.2.2.1
theorem c249_8 : mc_cd 249 8 = some (.iload_n 2, 1) := cg249_0.2.2.2.2.2.2.1
theorem c249_9 : mc_cd 249 9 = some (.invokevirtual 367, 3) := cg249_0.2.2.2.2.2.2.2
theorem cg249_12 : mc_cd 249 12 = some (.invokevirtual 433, 3) ∧ mc_cd 249 15 = some (.istore_n 3, 1) ∧ mc_cd 249 16 = some (.iload_n 3, 1) ∧ mc_cd 249 17 = some (.ifCond .le 9, 3) ∧ mc_cd 249 20 = some (.aload_n 0, 1) ∧ mc_cd 249 21 = some (.iload_n 3, 1) ∧ mc_cd 249 22 = some (.invokevirtual 54, 3) ∧ mc_cd 249 25 = some (.ireturn, 1) := by decide +kernel
theorem c249_12 : mc_cd 249 12 = some (.invokevirtual 433, 3) := cg249_12.1
theorem c249_15 : mc_cd 249 15 = some (.istore_n 3, 1) := cg249_12.2.1
theorem c249_16 : mc_cd 249 16 = some (.iload_n 3, 1) := cg249_12.2.2.1
theorem c249_17 : mc_cd 249 17 = some (.ifCond .le 9, 3) := cg249_12.2.2.2.1
theorem c249_20 : mc_cd 249 20 = some (.aload_n 0, 1) := cg249_12.2.2.2.2.1
theorem c249_21 : mc_cd 249 21 = some (.iload_n 3, 1) := cg249_12.2.2.2.2.2.1
theorem c249_22 : mc_cd 249 22 = some (.invokevirtual 54, 3) := cg249_12.2.2.2.2.2.2.1
theorem c249_25 : mc_cd 249 25 = some (.ireturn, 1) := cg249_12.2.2.2.2.2.2.2
theorem cg249_26 : mc_cd 249 26 = some (.iconst 0, 1) ∧ mc_cd 249 27 = some (.istore 4, 2) ∧ mc_cd 249 29 = some (.iconst 0, 1) ∧ mc_cd 249 30 = some (.istore 5, 2) ∧ mc_cd 249 32 = some (.iload 5, 2) ∧ mc_cd 249 34 = some (.aload_n 0, 1) ∧ mc_cd 249 35 = some (.getfield 422, 3) ∧ mc_cd 249 38 = some (.if_icmp .ge 40, 3) := by decide +kernel
theorem c249_26 : mc_cd 249 26 = some (.iconst 0, 1) := cg249_26.1
theorem c249_27 : mc_cd 249 27 = some (.istore 4, 2) := cg249_26.2.1
theorem c249_29 : mc_cd 249 29 = some (.iconst 0, 1) := cg249_26.2.2.1
theorem c249_30 : mc_cd 249 30 = some (.istore 5, 2) := cg249_26.2.2.2.1
theorem c249_32 : mc_cd 249 32 = some (.iload 5, 2) := cg249_26.2.2.2.2.1
theorem c249_34 : mc_cd 249 34 = some (.aload_n 0, 1) := cg249_26.2.2.2.2.2.1
theorem c249_35 : mc_cd 249 35 = some (.getfield 422, 3) := cg249_26.2.2.2.2.2.2.1
theorem c249_38 : mc_cd 249 38 = some (.if_icmp .ge 40, 3) := cg249_26.2.2.2.2.2.2.2
theorem cg249_41 : mc_cd 249 41 = some (.aload_n 0, 1) ∧ mc_cd 249 42 = some (.aload_n 0, 1) ∧ mc_cd 249 43 = some (.getfield 42, 3) ∧ mc_cd 249 46 = some (.iload 5, 2) ∧ mc_cd 249 48 = some (.iaload, 1) ∧ mc_cd 249 49 = some (.invokevirtual 425, 3) ∧ mc_cd 249 52 = some (.iload 4, 2) ∧ mc_cd 249 54 = some (.aload_n 0, 1) := by decide +kernel
theorem c249_41 : mc_cd 249 41 = some (.aload_n 0, 1) := cg249_41.1
theorem c249_42 : mc_cd 249 42 = some (.aload_n 0, 1) := cg249_41.2.1
theorem c249_43 : mc_cd 249 43 = some (.getfield 42, 3) := cg249_41.2.2.1
theorem c249_46 : mc_cd 249 46 = some (.iload 5, 2) := cg249_41.2.2.2.1
theorem c249_48 : mc_cd 249 48 = some (.iaload, 1) := cg249_41.2.2.2.2.1
theorem c249_49 : mc_cd 249 49 = some (.invokevirtual 425, 3) := cg249_41.2.2.2.2.2.1
theorem c249_52 : mc_cd 249 52 = some (.iload 4, 2) := cg249_41.2.2.2.2.2.2.1
theorem c249_54 : mc_cd 249 54 = some (.aload_n 0, 1) := cg249_41.2.2.2.2.2.2.2
theorem cg249_55 : mc_cd 249 55 = some (.getfield 39, 3) ∧ mc_cd 249 58 = some (.iload_n 1, 1) ∧ mc_cd 249 59 = some (.iaload, 1) ∧ mc_cd 249 60 = some (.iload_n 2, 1) ∧ mc_cd 249 61 = some (.if_icmp .ne 7, 3) ∧ mc_cd 249 64 = some (.iconst 1, 1) ∧ mc_cd 249 65 = some (.goto 4, 3) ∧ mc_cd 249 68 = some (.iconst 0, 1) := by decide +kernel
theorem c249_55 : mc_cd 249 55 = some (.getfield 39, 3) := cg249_55.1
theorem c249_58 : mc_cd 249 58 = some (.iload_n 1, 1) := cg249_55.2.1
theorem c249_59 : mc_cd 249 59 = some (.iaload, 1) := cg249_55.2.2.1
theorem c249_60 : mc_cd 249 60 = some (.iload_n 2, 1) := cg249_55.2.2.2.1
theorem c249_61 : mc_cd 249 61 = some (.if_icmp .ne 7, 3) := cg249_55.2.2.2.2.1
theorem c249_64 : mc_cd 249 64 = some (.iconst 1, 1) := cg249_55.2.2.2.2.2.1
theorem c249_65 : mc_cd 249 65 = some (.goto 4, 3) := cg249_55.2.2.2.2.2.2.1
theorem c249_68 : mc_cd 249 68 = some (.iconst 0, 1) := cg249_55.2.2.2.2.2.2.2
theorem cg249_69 : mc_cd 249 69 = some (.iadd, 1) ∧ mc_cd 249 70 = some (.istore 4, 2) ∧ mc_cd 249 72 = some (.iinc 5 1, 3) ∧ mc_cd 249 75 = some (.goto (-43), 3) ∧ mc_cd 249 78 = some (.aload_n 0, 1) ∧ mc_cd 249 79 = some (.iload 4, 2) ∧ mc_cd 249 81 = some (.invokevirtual 58, 3) ∧ mc_cd 249 84 = some (.ireturn, 1) := by decide +kernel
theorem c249_69 : mc_cd 249 69 = some (.iadd, 1) := cg249_69.1
theorem c249_70 : mc_cd 249 70 = some (.istore 4, 2) := cg249_69.2.1
theorem c249_72 : mc_cd 249 72 = some (.iinc 5 1, 3) := cg249_69.2.2.1
theorem c249_75 : mc_cd 249 75 = some (.goto (-43), 3) := cg249_69.2.2.2.1
theorem c249_78 : mc_cd 249 78 = some (.aload_n 0, 1) := cg249_69.2.2.2.2.1
theorem c249_79 : mc_cd 249 79 = some (.iload 4, 2) := cg249_69.2.2.2.2.2.1
theorem c249_81 : mc_cd 249 81 = some (.invokevirtual 58, 3) := cg249_69.2.2.2.2.2.2.1
theorem c249_84 : mc_cd 249 84 = some (.ireturn, 1) := cg249_69.2.2.2.2.2.2.2
abbrev q_249 (r0 : Nat) (a1 : Int) (a2 : Int) (T : wq_T) (H : wq_H) : Option Value → wq_T → wq_H → Prop := fun r T' H' => T = T' ∧ WT T H' ∧ wfr [(42, 0), (42, 1), (42, 2), (42, 28), (42, 29), (51, 999), (52, 999)] T H H' ∧ ∃ z : Int, some (vI z) = r ∧ ((-2147483648) ≤ z ∧ z ≤ 2147483647) ∧ (wKI H' r0 = 1)
set_option maxHeartbeats 4000000 in
theorem s_249 {kt : Nat → Option mc_E} {T : wq_T} {H : wq_H} {r0 : Nat} {a1 : Int} {a2 : Int} (hW : WT T H) (g0 : T.2.2.2 r0 = some 42) (i1 : (-2147483648) ≤ a1 ∧ a1 ≤ 2147483647) (i2 : (-2147483648) ≤ a2 ∧ a2 ≤ 2147483647) (p0 : wKI H r0 = 1) : wpc kt 8 249 [.ref r0, vI a1, vI a2] T H (q_249 r0 a1 a2 T H) := by
  refine wp_enter e249 (Nat.le_of_ble_eq_true rfl) rfl ?_
  have f0 : wfr [(42, 0), (42, 1), (42, 2), (42, 28), (42, 29), (51, 999), (52, 999)] T H H := wfr.rf
  show wp _ _ 249 0 [(0, .ref r0), (1, vI a1), (2, vI a2)] [] _ H _
  refine wp_of e249 c249_0 (rw_aload_n (pc' := 1) (v := .ref r0) rfl rfl rfl ?_)
  refine wp_of e249 c249_1 (rw_iconst (pc' := 2) rfl ?_)
  refine wp_of e249 c249_2 (xp_I (pc' := 5) lf_9_48 hW g0 sh_42 (by decide) (by decide) ty_42_0 rfl rfl (by omega) (by omega) ⟨by omega, by omega⟩ rfl (fun H138596 e138597 w138598 => ?_))
  have f138599 := f0.put' e138597 g0 rfl
  have k138600 : H138596 r0 0 = 0 := wq_u_s e138597
  refine wp_of e249 c249_5 (rw_aload_n (pc' := 6) (v := .ref r0) rfl rfl rfl ?_)
  refine wp_of e249 c249_6 (rw_aload_n (pc' := 7) (v := .ref r0) rfl rfl rfl ?_)
  refine wp_of e249 c249_7 (rw_iload_n (pc' := 8) (z := a1) rfl rfl ?_)
  refine wp_of e249 c249_8 (rw_iload_n (pc' := 9) (z := a2) rfl rfl ?_)
  refine wp_of e249 c249_9 (xc_V (pc' := 12) (r := r0) (as := [vI a1, vI a2]) (st := [.ref r0]) (lm_9_367) rfl rfl (Nat.le_of_ble_eq_true rfl) w138598 g0 sh_42 (by decide) rfl (by decide) (s_215 w138598 g0 ⟨by omega, by omega⟩ ⟨by omega, by omega⟩) (fun R138601 T138602 H138603 p138604 => ?_))
  obtain ⟨e138605, e138607, z138609, e138606, b138610, p138608⟩ := p138604
  subst e138605
  subst e138606
  subst e138607
  show wp _ _ 249 12 [(0, .ref r0), (1, vI a1), (2, vI a2)] [vI z138609, .ref r0] _ H138596 _
  have k138611 : wKI H138596 r0 = wKI H r0 := (wKI_fr hW g0 ((wfr.rf (l := [(42, 0)])).put' e138597 g0 rfl) rfl)
  refine wp_of e249 c249_12 (xc_V (pc' := 15) (r := r0) (as := [vI z138609]) (st := []) (lm_9_433) rfl rfl (Nat.le_of_ble_eq_true rfl) w138598 g0 sh_42 (by decide) rfl (by decide) (s_241 w138598 g0 ⟨by omega, by omega⟩ (by omega) (by omega)) (fun R138612 T138613 H138614 p138615 => ?_))
  obtain ⟨e138616, w138618, f138619, z138624, e138617, b138625, p138620, p138621, p138622, p138623⟩ := p138615
  subst e138616
  subst e138617
  have f138626 := f138599.tr f138619 rfl
  show wp _ _ 249 15 [(0, .ref r0), (1, vI a1), (2, vI a2)] [vI z138624] _ H138614 _
  refine wp_of e249 c249_15 (rw_istore_n (pc' := 16) (z := z138624) (L' := [(3, vI z138624), (0, .ref r0), (1, vI a1), (2, vI a2)]) rfl rfl rfl ?_)
  refine wp_of e249 c249_16 (rw_iload_n (pc' := 17) (z := z138624) rfl rfl ?_)
  refine wp_of e249 c249_17 (rw_if_le (p1 := 26) (p2 := 20) (by decide) rfl ⟨by omega, by omega⟩ (fun c138627 => ?_) (fun c138627 => ?_))
  · refine wp_of e249 c249_26 (rw_iconst (pc' := 27) rfl ?_)
    refine wp_of e249 c249_27 (rw_istore (pc' := 29) (z := 0) (L' := [(4, vI 0), (3, vI z138624), (0, .ref r0), (1, vI a1), (2, vI a2)]) rfl rfl rfl ?_)
    refine wp_of e249 c249_29 (rw_iconst (pc' := 30) rfl ?_)
    refine wp_of e249 c249_30 (rw_istore (pc' := 32) (z := 0) (L' := [(5, vI 0), (4, vI 0), (3, vI z138624), (0, .ref r0), (1, vI a1), (2, vI a2)]) rfl rfl rfl ?_)
    have lp138893 : ∀ (n138894 : Nat) (v138896 : Int) (v138897 : Int) (H138898 : wq_H), WT T H138898 → wfr [(51, 999)] T H138614 H138898 → (0 ≤ v138896 ∧ v138896 ≤ 20000) → ((-2147483648) ≤ v138897 ∧ v138897 ≤ 2147483647) → (20000 - v138896).toNat = n138894 → wp kt 7 249 32 [(5, vI v138896), (4, vI v138897), (0, .ref r0), (1, vI a1), (2, vI a2)] [] T H138898 (q_249 r0 a1 a2 T H) := by
      intro n138894
      induction n138894 using Nat.strongRecOn with
      | _ n138894 ih138895 =>
        intro v138896 v138897 H138898 w138899 f138900 b138901 b138902 m138903
        have f138904 := f138626.tr f138900 rfl
        refine wp_of e249 c249_32 (rw_iload (pc' := 34) (z := v138896) rfl rfl ?_)
        refine wp_of e249 c249_34 (rw_aload_n (pc' := 35) (v := .ref r0) rfl rfl rfl ?_)
        have k138905 : H138898 r0 29 = H138614 r0 29 := (f138900 r0 29 _ g0 rfl)
        refine wp_of e249 c249_35 (xg_I (pc' := 38) lf_9_422 w138899 g0 sh_42 (by decide) (by decide) ty_42_29 rfl rfl (fun b138906 b138907 => ?_))
        refine wp_of e249 c249_38 (rw_icmp_ge (p1 := 78) (p2 := 41) (by decide) rfl ⟨by omega, by omega⟩ ⟨by omega, by omega⟩ (fun c138908 => ?_) (fun c138908 => ?_))
        · refine wp_of e249 c249_78 (rw_aload_n (pc' := 79) (v := .ref r0) rfl rfl rfl ?_)
          refine wp_of e249 c249_79 (rw_iload (pc' := 81) (z := v138897) rfl rfl ?_)
          refine wp_of e249 c249_81 (xc_V (pc' := 84) (r := r0) (as := [vI v138897]) (st := []) (lm_9_58) rfl rfl (Nat.le_of_ble_eq_true rfl) w138899 g0 sh_42 (by decide) rfl (by decide) (s_209 w138899 g0 ⟨by omega, by omega⟩) (fun R138909 T138910 H138911 p138912 => ?_))
          obtain ⟨e138913, w138915, f138916, z138917, e138914, b138918⟩ := p138912
          subst e138913
          subst e138914
          have f138919 := f138904.tr f138916 rfl
          show wp _ _ 249 84 [(5, vI v138896), (4, vI v138897), (0, .ref r0), (1, vI a1), (2, vI a2)] [vI z138917] _ H138911 _
          have k138920 : wKI H138911 r0 = wKI H138614 r0 := ((wKI_fr w138899 g0 f138916 rfl).trans (wKI_fr w138618 g0 f138900 rfl))
          exact wp_ireturn e249 c249_84 rfl ⟨rfl, w138915, f138919, z138917, rfl, ⟨by omega, by omega⟩, by omega⟩
        · refine wp_of e249 c249_41 (rw_aload_n (pc' := 42) (v := .ref r0) rfl rfl rfl ?_)
          refine wp_of e249 c249_42 (rw_aload_n (pc' := 43) (v := .ref r0) rfl rfl rfl ?_)
          refine wp_of e249 c249_43 (xg_R (pc' := 46) lf_9_42 w138899 g0 sh_42 (by decide) (by decide) ty_42_30 rfl rfl (fun r138921 q138922 g138923 => ?_))
          refine wp_of e249 c249_46 (rw_iload (pc' := 48) (z := v138896) rfl rfl ?_)
          refine wp_of e249 c249_48 (xa_I (so := 0) (pc' := 49) w138899 g138923 sh_52 (by decide) (ty_52 _) (by omega) (by omega) rfl (fun b138924 b138925 => ?_))
          have k138926 : wLM H138898 r0 = wLM H138614 r0 := (wLM_fr w138618 g0 f138900 rfl)
          have k138927 : H138898 r0 3 = H138596 r0 3 := ((f138900 r0 3 _ g0 rfl).trans (f138619 r0 3 _ g0 rfl))
          obtain ⟨r138928, q138929, g138930⟩ := (w138899.opt g0 (t' := 54) (n := 33) (j := 3) (p := 0) (q := 0) rfl (by decide) rfl).resolve_left (by omega)
          refine wp_of e249 c249_49 (xc_V (pc' := 52) (r := r0) (as := [vI (H138898 r138921 (v138896.toNat))]) (st := []) (lm_9_425) rfl rfl (Nat.le_of_ble_eq_true rfl) w138899 g0 sh_42 (by decide) rfl (by decide) (s_243 w138899 g0 ⟨by omega, by omega⟩ q138929 g138930 (by omega)) (fun R138931 T138932 H138933 p138934 => ?_))
          obtain ⟨e138935, w138937, f138938, e138936⟩ := p138934
          subst e138935
          subst e138936
          have f138939 := f138904.tr f138938 rfl
          have f138940 := f138900.tr f138938 rfl
          show wp _ _ 249 52 [(5, vI v138896), (4, vI v138897), (0, .ref r0), (1, vI a1), (2, vI a2)] [] _ H138933 _
          refine wp_of e249 c249_52 (rw_iload (pc' := 54) (z := v138897) rfl rfl ?_)
          refine wp_of e249 c249_54 (rw_aload_n (pc' := 55) (v := .ref r0) rfl rfl rfl ?_)
          refine wp_of e249 c249_55 (xg_R (pc' := 58) lf_9_39 w138937 g0 sh_42 (by decide) (by decide) ty_42_27 rfl rfl (fun r138941 q138942 g138943 => ?_))
          refine wp_of e249 c249_58 (rw_iload_n (pc' := 59) (z := a1) rfl rfl ?_)
          refine wp_of e249 c249_59 (xa_I (so := 0) (pc' := 60) w138937 g138943 sh_51 (by decide) (ty_51 _) (by omega) (by omega) rfl (fun b138944 b138945 => ?_))
          refine wp_of e249 c249_60 (rw_iload_n (pc' := 61) (z := a2) rfl rfl ?_)
          refine wp_of e249 c249_61 (rw_icmp_ne (p1 := 68) (p2 := 64) (by decide) rfl ⟨by omega, by omega⟩ ⟨by omega, by omega⟩ (fun c138946 => ?_) (fun c138946 => ?_))
          · refine wp_of e249 c249_68 (rw_iconst (pc' := 69) rfl ?_)
            refine wp_of e249 c249_69 (rw_iadd (pc' := 70) rfl ?_)
            refine wp_of e249 c249_70 (rw_istore (pc' := 72) (z := v138897 + 0) (L' := [(4, vI (v138897 + 0)), (5, vI v138896), (0, .ref r0), (1, vI a1), (2, vI a2)]) rfl rfl rfl ?_)
            refine wp_of e249 c249_72 (rw_iinc (pc' := 75) (z := v138896) (L' := [(5, vI (v138896 + 1)), (4, vI (v138897 + 0)), (0, .ref r0), (1, vI a1), (2, vI a2)]) rfl rfl rfl rfl ?_)
            refine wp_of e249 c249_75 (rw_goto (p1 := 32) (by decide) ?_)
            exact wp_lc (ks := [5, 4, 0, 1, 2]) (wl_c rfl (wl_c rfl (wl_c rfl (wl_c rfl (wl_c rfl wl_n))))) rfl (by decide) (ih138895 _ (by omega) (v138896 + 1) (v138897 + 0) H138933 w138937 f138940 ⟨by omega, by omega⟩ ⟨by omega, by omega⟩ rfl)
          · refine wp_of e249 c249_64 (rw_iconst (pc' := 65) rfl ?_)
            refine wp_of e249 c249_65 (rw_goto (p1 := 69) (by decide) ?_)
            refine wp_of e249 c249_69 (rw_iaddw (pc' := 70) rfl ?_)
            obtain ⟨v138947, e138948⟩ : ∃ x : Int, x = wq_w (v138897 + 1) := ⟨_, rfl⟩
            rw [← e138948]
            have b138949 : -2147483648 ≤ v138947 ∧ v138947 ≤ 2147483647 := by
              rw [e138948]
              exact wI_w _
            refine wp_of e249 c249_70 (rw_istore (pc' := 72) (z := v138947) (L' := [(4, vI v138947), (5, vI v138896), (0, .ref r0), (1, vI a1), (2, vI a2)]) rfl rfl rfl ?_)
            refine wp_of e249 c249_72 (rw_iinc (pc' := 75) (z := v138896) (L' := [(5, vI (v138896 + 1)), (4, vI v138947), (0, .ref r0), (1, vI a1), (2, vI a2)]) rfl rfl rfl rfl ?_)
            refine wp_of e249 c249_75 (rw_goto (p1 := 32) (by decide) ?_)
            exact wp_lc (ks := [5, 4, 0, 1, 2]) (wl_c rfl (wl_c rfl (wl_c rfl (wl_c rfl (wl_c rfl wl_n))))) rfl (by decide) (ih138895 _ (by omega) (v138896 + 1) v138947 H138933 w138937 f138940 ⟨by omega, by omega⟩ ⟨by omega, by omega⟩ rfl)
    exact wp_lc (ks := [5, 4, 3, 0, 1, 2]) (wl_c rfl (wl_c rfl (wl_c rfl (wl_c rfl (wl_c rfl wl_n))))) rfl (by decide) (lp138893 _ 0 0 H138614 w138618 wfr.rf ⟨by omega, by omega⟩ ⟨by omega, by omega⟩ rfl)
  · refine wp_of e249 c249_20 (rw_aload_n (pc' := 21) (v := .ref r0) rfl rfl rfl ?_)
    refine wp_of e249 c249_21 (rw_iload_n (pc' := 22) (z := z138624) rfl rfl ?_)
    refine wp_of e249 c249_22 (xc_V (pc' := 25) (r := r0) (as := [vI z138624]) (st := []) (lm_9_54) rfl rfl (Nat.le_of_ble_eq_true rfl) w138618 g0 sh_42 (by decide) rfl (by decide) (s_170 w138618 g0 ⟨by omega, by omega⟩) (fun R138950 T138951 H138952 p138953 => ?_))
    obtain ⟨e138954, w138956, f138957, z138958, e138955, b138959⟩ := p138953
    subst e138954
    subst e138955
    have f138960 := f138626.tr f138957 rfl
    show wp _ _ 249 25 [(3, vI z138624), (0, .ref r0), (1, vI a1), (2, vI a2)] [vI z138958] _ H138952 _
    have k138961 : wKI H138952 r0 = wKI H138614 r0 := (wKI_fr w138618 g0 f138957 rfl)
    exact wp_ireturn e249 c249_25 rfl ⟨rfl, w138956, f138960, z138958, rfl, ⟨by omega, by omega⟩, by omega⟩
/-! StrikeAwakeModel.awakeIn(II)I -/
theorem e251 : wq_en 251 = some (9, 5, false, some FieldType.int) := rfl
theorem cg251_0 : mc_cd 251 0 = some (.iconst 0, 1) ∧ mc_cd 251 1 = some (.istore_n 3, 1) ∧ mc_cd 251 2 = some (.iconst 0, 1) ∧ mc_cd 251 3 = some (.istore 4, 2) ∧ mc_cd 251 5 = some (.iload 4, 2) ∧ mc_cd 251 7 = some (.aload_n 0, 1) ∧ mc_cd 251 8 = some (.getfield 422, 3) ∧ mc_cd 251 11 = some (.if_icmp .ge 51, 3) := by decide +kernel
theorem c251_0 : mc_cd 251 0 = some (.iconst 0, 1) := cg251_0.1
theorem c251_1 : mc_cd 251 1 = some (.istore_n 3, 1) := cg251_0.2.1
theorem c251_2 : mc_cd 251 2 = some (.iconst 0, 1) := cg251_0.2.2.1
theorem c251_3 : mc_cd 251 3 = some (.istore 4, 2) := cg251_0.2.2.2.1
theorem c251_5 : mc_cd 251 5 = some (.iload 4, 2) := cg251_0.2.2.2.2.1
theorem c251_7 : mc_cd 251 7 = some (.aload_n 0, 1) := cg251_0.2.2.2.2.2.1
theorem c251_8 : mc_cd 251 8 = some (.getfield 422, 3) := cg251_0.2.2.2.2.2.2.1
theorem c251_11 : mc_cd 251 11 = some (.if_icmp .ge 51, 3) := cg251_0.2.2.2.2.2.2.2
theorem cg251_14 : mc_cd 251 14 = some (.aload_n 0, 1) ∧ mc_cd 251 15 = some (.aload_n 0, 1) ∧ mc_cd 251 16 = some (.getfield 42, 3) ∧ mc_cd 251 19 = some (.iload 4, 2) ∧ mc_cd 251 21 = some (.iaload, 1) ∧ mc_cd 251 22 = some (.invokevirtual 425, 3) ∧ mc_cd 251 25 = some (.iload_n 3, 1) ∧ mc_cd 251 26 = some (.aload_n 0, 1) := by decide +kernel
theorem c251_14 : mc_cd 251 14 = some (.aload_n 0, 1) := cg251_14.1
theorem c251_15 : mc_cd 251 15 = some (.aload_n 0, 1) := cg251_14.2.1
theorem c251_16 : mc_cd 251 16 = some (.getfield 42, 3) := cg251_14.2.2.1
theorem c251_19 : mc_cd 251 19 = some (.iload 4, 2) := cg251_14.2.2.2.1
theorem c251_21 : mc_cd 251 21 = some (.iaload, 1) := cg251_14.2.2.2.2.1
theorem c251_22 : mc_cd 251 22 = some (.invokevirtual 425, 3) := cg251_14.2.2.2.2.2.1
theorem c251_25 : mc_cd 251 25 = some (.iload_n 3, 1) := cg251_14.2.2.2.2.2.2.1
theorem c251_26 : mc_cd 251 26 = some (.aload_n 0, 1) := cg251_14.2.2.2.2.2.2.2
theorem cg251_27 : mc_cd 251 27 = some (.getfield 33, 3) ∧ mc_cd 251 30 = some (.bipush 40, 2) ∧ mc_cd 251 32 = some (.iload_n 1, 1) ∧ mc_cd 251 33 = some (.imul, 1) ∧ mc_cd 251 34 = some (.aload_n 0, 1) ∧ mc_cd 251 35 = some (.getfield 39, 3) ∧ mc_cd 251 38 = some (.iload_n 1, 1) ∧ mc_cd 251 39 = some (.iaload, 1) := by decide +kernel
theorem c251_27 : mc_cd 251 27 = some (.getfield 33, 3) := cg251_27.1
theorem c251_30 : mc_cd 251 30 = some (.bipush 40, 2) := cg251_27.2.1
theorem c251_32 : mc_cd 251 32 = some (.iload_n 1, 1) := cg251_27.2.2.1
theorem c251_33 : mc_cd 251 33 = some (.imul, 1) := cg251_27.2.2.2.1
theorem c251_34 : mc_cd 251 34 = some (.aload_n 0, 1) := cg251_27.2.2.2.2.1
theorem c251_35 : mc_cd 251 35 = some (.getfield 39, 3) := cg251_27.2.2.2.2.2.1
theorem c251_38 : mc_cd 251 38 = some (.iload_n 1, 1) := cg251_27.2.2.2.2.2.2.1
theorem c251_39 : mc_cd 251 39 = some (.iaload, 1) := cg251_27.2.2.2.2.2.2.2
theorem cg251_40 : mc_cd 251 40 = some (.iadd, 1) ∧ mc_cd 251 41 = some (.iaload, 1) ∧ mc_cd 251 42 = some (.iload_n 2, 1) ∧ mc_cd 251 43 = some (.invokestatic 346, 3) ∧ mc_cd 251 46 = some (.ifCond .eq 7, 3) ∧ mc_cd 251 49 = some (.iconst 1, 1) ∧ mc_cd 251 50 = some (.goto 4, 3) ∧ mc_cd 251 53 = some (.iconst 0, 1) := by decide +kernel
theorem c251_40 : mc_cd 251 40 = some (.iadd, 1) := cg251_40.1
theorem c251_41 : mc_cd 251 41 = some (.iaload, 1) := cg251_40.2.1
theorem c251_42 : mc_cd 251 42 = some (.iload_n 2, 1) := cg251_40.2.2.1
theorem c251_43 : mc_cd 251 43 = some (.invokestatic 346, 3) := cg251_40.2.2.2.1
theorem c251_46 : mc_cd 251 46 = some (.ifCond .eq 7, 3) := cg251_40.2.2.2.2.1
theorem c251_49 : mc_cd 251 49 = some (.iconst 1, 1) := cg251_40.2.2.2.2.2.1
theorem c251_50 : mc_cd 251 50 = some (.goto 4, 3) := cg251_40.2.2.2.2.2.2.1
theorem c251_53 : mc_cd 251 53 = some (.iconst 0, 1) := cg251_40.2.2.2.2.2.2.2
theorem cg251_54 : mc_cd 251 54 = some (.iadd, 1) ∧ mc_cd 251 55 = some (.istore_n 3, 1) ∧ mc_cd 251 56 = some (.iinc 4 1, 3) ∧ mc_cd 251 59 = some (.goto (-54), 3) ∧ mc_cd 251 62 = some (.iload_n 3, 1) ∧ mc_cd 251 63 = some (.ireturn, 1) := by decide +kernel
theorem c251_54 : mc_cd 251 54 = some (.iadd, 1) := cg251_54.1
theorem c251_55 : mc_cd 251 55 = some (.istore_n 3, 1) := cg251_54.2.1
theorem c251_56 : mc_cd 251 56 = some (.iinc 4 1, 3) := cg251_54.2.2.1
theorem c251_59 : mc_cd 251 59 = some (.goto (-54), 3) := cg251_54.2.2.2.1
theorem c251_62 : mc_cd 251 62 = some (.iload_n 3, 1) := cg251_54.2.2.2.2.1
theorem c251_63 : mc_cd 251 63 = some (.ireturn, 1) := cg251_54.2.2.2.2.2
abbrev q_251 (r0 : Nat) (a1 : Int) (a2 : Int) (pp : Nat) (T : wq_T) (H : wq_H) : Option Value → wq_T → wq_H → Prop := fun r T' H' => T = T' ∧ WT T H' ∧ wfr [(51, 999)] T H H' ∧ ∃ z : Int, some (vI z) = r ∧ ((-2147483648) ≤ z ∧ z ≤ 2147483647)
set_option maxHeartbeats 4000000 in
theorem s_251 {kt : Nat → Option mc_E} {T : wq_T} {H : wq_H} {r0 : Nat} {a1 : Int} {a2 : Int} {pp : Nat} (hW : WT T H) (g0 : T.2.2.2 r0 = some 42) (i1 : 0 ≤ a1 ∧ a1 ≤ 5) (i2 : (-2147483648) ≤ a2 ∧ a2 ≤ 2147483647) (qpp : H r0 3 = (pp : Int)) (gpp : T.2.2.2 pp = some 54) (p0 : H r0 29 = 0 ∨ 0 < wLM H r0) : wpc kt 2 251 [.ref r0, vI a1, vI a2] T H (q_251 r0 a1 a2 pp T H) := by
  refine wp_enter e251 (Nat.le_of_ble_eq_true rfl) rfl ?_
  have f0 : wfr [(51, 999)] T H H := wfr.rf
  show wp _ _ 251 0 [(0, .ref r0), (1, vI a1), (2, vI a2)] [] _ H _
  have b139379 : 0 ≤ H r0 29 ∧ H r0 29 ≤ 20000 := hW.box g0 (n := 33) rfl (by decide) rfl
  refine wp_of e251 c251_0 (rw_iconst (pc' := 1) rfl ?_)
  refine wp_of e251 c251_1 (rw_istore_n (pc' := 2) (z := 0) (L' := [(3, vI 0), (0, .ref r0), (1, vI a1), (2, vI a2)]) rfl rfl rfl ?_)
  refine wp_of e251 c251_2 (rw_iconst (pc' := 3) rfl ?_)
  refine wp_of e251 c251_3 (rw_istore (pc' := 5) (z := 0) (L' := [(4, vI 0), (3, vI 0), (0, .ref r0), (1, vI a1), (2, vI a2)]) rfl rfl rfl ?_)
  have lp139753 : ∀ (n139754 : Nat) (v139756 : Int) (v139757 : Int) (H139758 : wq_H), WT T H139758 → wfr [(51, 999)] T H H139758 → (0 ≤ v139756 ∧ v139756 ≤ 20000) → ((-2147483648) ≤ v139757 ∧ v139757 ≤ 2147483647) → (20000 - v139756).toNat = n139754 → wp kt 1 251 5 [(4, vI v139756), (3, vI v139757), (0, .ref r0), (1, vI a1), (2, vI a2)] [] T H139758 (q_251 r0 a1 a2 pp T H) := by
    intro n139754
    induction n139754 using Nat.strongRecOn with
    | _ n139754 ih139755 =>
      intro v139756 v139757 H139758 w139759 f139760 b139761 b139762 m139763
      have f139764 := f0.tr f139760 rfl
      refine wp_of e251 c251_5 (rw_iload (pc' := 7) (z := v139756) rfl rfl ?_)
      refine wp_of e251 c251_7 (rw_aload_n (pc' := 8) (v := .ref r0) rfl rfl rfl ?_)
      have k139765 : H139758 r0 29 = H r0 29 := (f139760 r0 29 _ g0 rfl)
      refine wp_of e251 c251_8 (xg_I (pc' := 11) lf_9_422 w139759 g0 sh_42 (by decide) (by decide) ty_42_29 rfl rfl (fun b139766 b139767 => ?_))
      refine wp_of e251 c251_11 (rw_icmp_ge (p1 := 62) (p2 := 14) (by decide) rfl ⟨by omega, by omega⟩ ⟨by omega, by omega⟩ (fun c139768 => ?_) (fun c139768 => ?_))
      · refine wp_of e251 c251_62 (rw_iload_n (pc' := 63) (z := v139757) rfl rfl ?_)
        exact wp_ireturn e251 c251_63 rfl ⟨rfl, w139759, f139764, v139757, rfl, ⟨by omega, by omega⟩⟩
      · refine wp_of e251 c251_14 (rw_aload_n (pc' := 15) (v := .ref r0) rfl rfl rfl ?_)
        refine wp_of e251 c251_15 (rw_aload_n (pc' := 16) (v := .ref r0) rfl rfl rfl ?_)
        refine wp_of e251 c251_16 (xg_R (pc' := 19) lf_9_42 w139759 g0 sh_42 (by decide) (by decide) ty_42_30 rfl rfl (fun r139769 q139770 g139771 => ?_))
        refine wp_of e251 c251_19 (rw_iload (pc' := 21) (z := v139756) rfl rfl ?_)
        refine wp_of e251 c251_21 (xa_I (so := 0) (pc' := 22) w139759 g139771 sh_52 (by decide) (ty_52 _) (by omega) (by omega) rfl (fun b139772 b139773 => ?_))
        have k139774 : wLM H139758 r0 = wLM H r0 := (wLM_fr hW g0 f139760 rfl)
        have k139775 : H139758 r0 3 = H r0 3 := (f139760 r0 3 _ g0 rfl)
        have q139776 : H139758 r0 3 = (pp : Int) := k139775.trans qpp
        refine wp_of e251 c251_22 (xc_V (pc' := 25) (r := r0) (as := [vI (H139758 r139769 (v139756.toNat))]) (st := []) (lm_9_425) rfl rfl (Nat.le_of_ble_eq_true rfl) w139759 g0 sh_42 (by decide) rfl (by decide) (s_243 w139759 g0 ⟨by omega, by omega⟩ q139776 gpp (by omega)) (fun R139777 T139778 H139779 p139780 => ?_))
        obtain ⟨e139781, w139783, f139784, e139782⟩ := p139780
        subst e139781
        subst e139782
        have f139785 := f139764.tr f139784 rfl
        have f139786 := f139760.tr f139784 rfl
        show wp _ _ 251 25 [(4, vI v139756), (3, vI v139757), (0, .ref r0), (1, vI a1), (2, vI a2)] [] _ H139779 _
        refine wp_of e251 c251_25 (rw_iload_n (pc' := 26) (z := v139757) rfl rfl ?_)
        refine wp_of e251 c251_26 (rw_aload_n (pc' := 27) (v := .ref r0) rfl rfl rfl ?_)
        refine wp_of e251 c251_27 (xg_R (pc' := 30) lf_9_33 w139783 g0 sh_42 (by decide) (by decide) ty_42_25 rfl rfl (fun r139787 q139788 g139789 => ?_))
        refine wp_of e251 c251_30 (rw_bipush (pc' := 32) (z := 40) rfl (by decide) ?_)
        refine wp_of e251 c251_32 (rw_iload_n (pc' := 33) (z := a1) rfl rfl ?_)
        refine wp_of e251 c251_33 (rw_imul (pc' := 34) rfl ?_)
        refine wp_of e251 c251_34 (rw_aload_n (pc' := 35) (v := .ref r0) rfl rfl rfl ?_)
        refine wp_of e251 c251_35 (xg_R (pc' := 38) lf_9_39 w139783 g0 sh_42 (by decide) (by decide) ty_42_27 rfl rfl (fun r139790 q139791 g139792 => ?_))
        refine wp_of e251 c251_38 (rw_iload_n (pc' := 39) (z := a1) rfl rfl ?_)
        refine wp_of e251 c251_39 (xa_I (so := 0) (pc' := 40) w139783 g139792 sh_51 (by decide) (ty_51 _) (by omega) (by omega) rfl (fun b139793 b139794 => ?_))
        refine wp_of e251 c251_40 (rw_iadd (pc' := 41) rfl ?_)
        refine wp_of e251 c251_41 (xa_I (so := 0) (pc' := 42) w139783 g139789 sh_49 (by decide) (ty_49 _) (by omega) (by omega) rfl (fun b139795 b139796 => ?_))
        refine wp_of e251 c251_42 (rw_iload_n (pc' := 43) (z := a2) rfl rfl ?_)
        refine wp_of e251 c251_43 (xc_S (pc' := 46) (as := [vI (H139779 r139787 (((40 * a1) + (H139779 r139790 (a1.toNat))).toNat)), vI a2]) (st := [vI v139757]) (lm_9_346) rfl rfl (Nat.le_of_ble_eq_true rfl) rfl (by decide) (s_205 w139783 ⟨by omega, by omega⟩ ⟨by omega, by omega⟩) (fun R139797 T139798 H139799 p139800 => ?_))
        obtain ⟨e139801, e139803, z139804, e139802, b139805⟩ := p139800
        subst e139801
        subst e139802
        subst e139803
        show wp _ _ 251 46 [(4, vI v139756), (3, vI v139757), (0, .ref r0), (1, vI a1), (2, vI a2)] [vI z139804, vI v139757] _ H139779 _
        refine wp_of e251 c251_46 (rw_if_eq (p1 := 53) (p2 := 49) (by decide) rfl ⟨by omega, by omega⟩ (fun c139806 => ?_) (fun c139806 => ?_))
        · refine wp_of e251 c251_53 (rw_iconst (pc' := 54) rfl ?_)
          refine wp_of e251 c251_54 (rw_iadd (pc' := 55) rfl ?_)
          refine wp_of e251 c251_55 (rw_istore_n (pc' := 56) (z := v139757 + 0) (L' := [(3, vI (v139757 + 0)), (4, vI v139756), (0, .ref r0), (1, vI a1), (2, vI a2)]) rfl rfl rfl ?_)
          refine wp_of e251 c251_56 (rw_iinc (pc' := 59) (z := v139756) (L' := [(4, vI (v139756 + 1)), (3, vI (v139757 + 0)), (0, .ref r0), (1, vI a1), (2, vI a2)]) rfl rfl rfl rfl ?_)
          refine wp_of e251 c251_59 (rw_goto (p1 := 5) (by decide) ?_)
          exact wp_lc (ks := [4, 3, 0, 1, 2]) (wl_c rfl (wl_c rfl (wl_c rfl (wl_c rfl (wl_c rfl wl_n))))) rfl (by decide) (ih139755 _ (by omega) (v139756 + 1) (v139757 + 0) H139779 w139783 f139786 ⟨by omega, by omega⟩ ⟨by omega, by omega⟩ rfl)
        · refine wp_of e251 c251_49 (rw_iconst (pc' := 50) rfl ?_)
          refine wp_of e251 c251_50 (rw_goto (p1 := 54) (by decide) ?_)
          refine wp_of e251 c251_54 (rw_iaddw (pc' := 55) rfl ?_)
          obtain ⟨v139807, e139808⟩ : ∃ x : Int, x = wq_w (v139757 + 1) := ⟨_, rfl⟩
          rw [← e139808]
          have b139809 : -2147483648 ≤ v139807 ∧ v139807 ≤ 2147483647 := by
            rw [e139808]
            exact wI_w _
          refine wp_of e251 c251_55 (rw_istore_n (pc' := 56) (z := v139807) (L' := [(3, vI v139807), (4, vI v139756), (0, .ref r0), (1, vI a1), (2, vI a2)]) rfl rfl rfl ?_)
          refine wp_of e251 c251_56 (rw_iinc (pc' := 59) (z := v139756) (L' := [(4, vI (v139756 + 1)), (3, vI v139807), (0, .ref r0), (1, vI a1), (2, vI a2)]) rfl rfl rfl rfl ?_)
          refine wp_of e251 c251_59 (rw_goto (p1 := 5) (by decide) ?_)
          exact wp_lc (ks := [4, 3, 0, 1, 2]) (wl_c rfl (wl_c rfl (wl_c rfl (wl_c rfl (wl_c rfl wl_n))))) rfl (by decide) (ih139755 _ (by omega) (v139756 + 1) v139807 H139779 w139783 f139786 ⟨by omega, by omega⟩ ⟨by omega, by omega⟩ rfl)
  exact wp_lc (ks := [4, 3, 0, 1, 2]) (wl_c rfl (wl_c rfl (wl_c rfl (wl_c rfl (wl_c rfl wl_n))))) rfl (by decide) (lp139753 _ 0 0 H hW wfr.rf ⟨by omega, by omega⟩ ⟨by omega, by omega⟩ rfl)
/-! StrikeAwakeModel.times(II)I -/
theorem e250 : wq_en 250 = some (9, 4, false, some FieldType.int) := rfl
theorem cg250_0 : mc_cd 250 0 = some (.aload_n 0, 1) ∧ mc_cd 250 1 = some (.iconst 0, 1) ∧ mc_cd 250 2 = some (.putfield 48, 3) ∧ mc_cd 250 5 = some (.aload_n 0, 1) ∧ mc_cd 250 6 = some (.aload_n 0, 1) ∧ mc_cd 250 7 = some (.iload_n 1, 1) ∧ mc_cd 250 8 = some (.invokevirtual 364, 3) ∧ mc_cd 250 11 = some (.ifCond .eq 15, 3) := by decide +kernel
theorem c250_0 : mc_cd 250 0 = some (.aload_n 0, 1) := cg250_0.1
theorem c250_1 : mc_cd 250 1 = some (.iconst 0, 1) := cg250_0.2.1
theorem c250_2 : mc_cd 250 2 = some (.putfield 48, 3) := cg250_0.2.2.1
theorem c250_5 : mc_cd 250 5 = some (.aload_n 0, 1) := cg250_0.2.2.2.1
theorem c250_6 : mc_cd 250 6 = some (.aload_n 0, 1) := cg250_0.2.2.2.2.1
theorem c250_7 : mc_cd 250 7 = some (.iload_n 1, 1) := cg250_0.2.2.2.2.2.1
theorem c250_8 : mc_cd 250 8 = some (.invokevirtual 364, 3) := cg250_0.2.2.2.2.2.2.1
theorem c250_11 : mc_cd 250 11 = some (.ifCond .eq 15, 3) := cg250_0.2.2.2.2.2.2.2
theorem cg250_14 : mc_cd 250 14 = some (.aload_n 0, 1) ∧ mc_cd 250 15 = some (.iload_n 2, 1) ∧ mc_cd 250 16 = some (.invokevirtual 373, 3) ∧ mc_cd 250 19 = some (.ifCond .eq 7, 3) ∧ mc_cd 250 22 = some (.iconst 1, 1) ∧ mc_cd 250 23 = some (.goto 4, 3) ∧ mc_cd 250 26 = some (.iconst 0, 1) ∧ mc_cd 250 27 = some (.invokevirtual 433, 3) := by decide +kernel
theorem c250_14 : mc_cd 250 14 = some (.aload_n 0, 1) := cg250_14.1
theorem c250_15 : mc_cd 250 15 = some (.iload_n 2, 1) := cg250_14.2.1
theorem c250_16 : mc_cd 250 16 = some (.invokevirtual 373, 3) := cg250_14.2.2.1
theorem c250_19 : mc_cd 250 19 = some (.ifCond .eq 7, 3) := cg250_14.2.2.2.1
theorem c250_22 : mc_cd 250 22 = some (.iconst 1, 1) := cg250_14.2.2.2.2.1
theorem c250_23 : mc_cd 250 23 = some (.goto 4, 3) := cg250_14.2.2.2.2.2.1
theorem c250_26 : mc_cd 250 26 = some (.iconst 0, 1) := cg250_14.2.2.2.2.2.2.1
theorem c250_27 : mc_cd 250 27 = some (.invokevirtual 433, 3) := cg250_14.2.2.2.2.2.2.2
theorem cg250_30 : mc_cd 250 30 = some (.istore_n 3, 1) ∧ mc_cd 250 31 = some (.iload_n 3, 1) ∧ mc_cd 250 32 = some (.ifCond .le 11, 3) ∧ mc_cd 250 35 = some (.aload_n 0, 1) ∧ mc_cd 250 36 = some (.iload_n 3, 1) ∧ mc_cd 250 37 = some (.invokevirtual 54, 3) ∧ mc_cd 250 40 = some (.goto 13, 3) ∧ mc_cd 250 43 = some (.aload_n 0, 1) := by decide +kernel
theorem c250_30 : mc_cd 250 30 = some (.istore_n 3, 1) := cg250_30.1
theorem c250_31 : mc_cd 250 31 = some (.iload_n 3, 1) := cg250_30.2.1
theorem c250_32 : mc_cd 250 32 = some (.ifCond .le 11, 3) := cg250_30.2.2.1
theorem c250_35 : mc_cd 250 35 = some (.aload_n 0, 1) := cg250_30.2.2.2.1
theorem c250_36 : mc_cd 250 36 = some (.iload_n 3, 1) := cg250_30.2.2.2.2.1
theorem c250_37 : mc_cd 250 37 = some (.invokevirtual 54, 3) := cg250_30.2.2.2.2.2.1
theorem c250_40 : mc_cd 250 40 = some (.goto 13, 3) := cg250_30.2.2.2.2.2.2.1
theorem c250_43 : mc_cd 250 43 = some (.aload_n 0, 1) := cg250_30.2.2.2.2.2.2.2
theorem cg250_44 : mc_cd 250 44 = some (.aload_n 0, 1) ∧ mc_cd 250 45 = some (.iload_n 1, 1) ∧ mc_cd 250 46 = some (.iload_n 2, 1) ∧ mc_cd 250 47 = some (.invokevirtual 444, 3) ∧ mc_cd 250 50 = some (.invokevirtual 58, 3) ∧ mc_cd 250 53 = some (.ireturn, 1) := by decide +kernel
theorem c250_44 : mc_cd 250 44 = some (.aload_n 0, 1) := cg250_44.1
theorem c250_45 : mc_cd 250 45 = some (.iload_n 1, 1) := cg250_44.2.1
theorem c250_46 : mc_cd 250 46 = some (.iload_n 2, 1) := cg250_44.2.2.1
theorem c250_47 : mc_cd 250 47 = some (.invokevirtual 444, 3) := cg250_44.2.2.2.1
theorem c250_50 : mc_cd 250 50 = some (.invokevirtual 58, 3) := cg250_44.2.2.2.2.1
theorem c250_53 : mc_cd 250 53 = some (.ireturn, 1) := cg250_44.2.2.2.2.2
abbrev q_250 (r0 : Nat) (a1 : Int) (a2 : Int) (T : wq_T) (H : wq_H) : Option Value → wq_T → wq_H → Prop := fun r T' H' => T = T' ∧ WT T H' ∧ wfr [(42, 0), (42, 1), (42, 2), (42, 28), (42, 29), (51, 999), (52, 999)] T H H' ∧ ∃ z : Int, some (vI z) = r ∧ ((-2147483648) ≤ z ∧ z ≤ 2147483647) ∧ (wKI H' r0 = 1)
set_option maxHeartbeats 4000000 in
theorem s_250 {kt : Nat → Option mc_E} {T : wq_T} {H : wq_H} {r0 : Nat} {a1 : Int} {a2 : Int} (hW : WT T H) (g0 : T.2.2.2 r0 = some 42) (i1 : (-2147483648) ≤ a1 ∧ a1 ≤ 2147483647) (i2 : (-2147483648) ≤ a2 ∧ a2 ≤ 2147483647) (p0 : wKI H r0 = 1) : wpc kt 8 250 [.ref r0, vI a1, vI a2] T H (q_250 r0 a1 a2 T H) := by
  refine wp_enter e250 (Nat.le_of_ble_eq_true rfl) rfl ?_
  have f0 : wfr [(42, 0), (42, 1), (42, 2), (42, 28), (42, 29), (51, 999), (52, 999)] T H H := wfr.rf
  show wp _ _ 250 0 [(0, .ref r0), (1, vI a1), (2, vI a2)] [] _ H _
  refine wp_of e250 c250_0 (rw_aload_n (pc' := 1) (v := .ref r0) rfl rfl rfl ?_)
  refine wp_of e250 c250_1 (rw_iconst (pc' := 2) rfl ?_)
  refine wp_of e250 c250_2 (xp_I (pc' := 5) lf_9_48 hW g0 sh_42 (by decide) (by decide) ty_42_0 rfl rfl (by omega) (by omega) ⟨by omega, by omega⟩ rfl (fun H139951 e139952 w139953 => ?_))
  have f139954 := f0.put' e139952 g0 rfl
  have k139955 : H139951 r0 0 = 0 := wq_u_s e139952
  refine wp_of e250 c250_5 (rw_aload_n (pc' := 6) (v := .ref r0) rfl rfl rfl ?_)
  refine wp_of e250 c250_6 (rw_aload_n (pc' := 7) (v := .ref r0) rfl rfl rfl ?_)
  refine wp_of e250 c250_7 (rw_iload_n (pc' := 8) (z := a1) rfl rfl ?_)
  refine wp_of e250 c250_8 (xc_V (pc' := 11) (r := r0) (as := [vI a1]) (st := [.ref r0]) (lm_9_364) rfl rfl (Nat.le_of_ble_eq_true rfl) w139953 g0 sh_42 (by decide) rfl (by decide) (s_213 w139953 g0 ⟨by omega, by omega⟩) (fun R139956 T139957 H139958 p139959 => ?_))
  obtain ⟨e139960, e139962, z139964, e139961, b139965, p139963⟩ := p139959
  subst e139960
  subst e139961
  subst e139962
  show wp _ _ 250 11 [(0, .ref r0), (1, vI a1), (2, vI a2)] [vI z139964, .ref r0] _ H139951 _
  refine wp_of e250 c250_11 (rw_if_eq (p1 := 26) (p2 := 14) (by decide) rfl ⟨by omega, by omega⟩ (fun c139966 => ?_) (fun c139966 => ?_))
  · refine wp_of e250 c250_26 (rw_iconst (pc' := 27) rfl ?_)
    have k139967 : wKI H139951 r0 = wKI H r0 := (wKI_fr hW g0 ((wfr.rf (l := [(42, 0)])).put' e139952 g0 rfl) rfl)
    refine wp_of e250 c250_27 (xc_V (pc' := 30) (r := r0) (as := [vI 0]) (st := []) (lm_9_433) rfl rfl (Nat.le_of_ble_eq_true rfl) w139953 g0 sh_42 (by decide) rfl (by decide) (s_241 w139953 g0 ⟨by omega, by omega⟩ (by omega) (by omega)) (fun R139968 T139969 H139970 p139971 => ?_))
    obtain ⟨e139972, w139974, f139975, z139980, e139973, b139981, p139976, p139977, p139978, p139979⟩ := p139971
    subst e139972
    subst e139973
    have f139982 := f139954.tr f139975 rfl
    show wp _ _ 250 30 [(0, .ref r0), (1, vI a1), (2, vI a2)] [vI z139980] _ H139970 _
    refine wp_of e250 c250_30 (rw_istore_n (pc' := 31) (z := z139980) (L' := [(3, vI z139980), (0, .ref r0), (1, vI a1), (2, vI a2)]) rfl rfl rfl ?_)
    refine wp_of e250 c250_31 (rw_iload_n (pc' := 32) (z := z139980) rfl rfl ?_)
    refine wp_of e250 c250_32 (rw_if_le (p1 := 43) (p2 := 35) (by decide) rfl ⟨by omega, by omega⟩ (fun c139983 => ?_) (fun c139983 => ?_))
    · exfalso
      omega
    · refine wp_of e250 c250_35 (rw_aload_n (pc' := 36) (v := .ref r0) rfl rfl rfl ?_)
      refine wp_of e250 c250_36 (rw_iload_n (pc' := 37) (z := z139980) rfl rfl ?_)
      refine wp_of e250 c250_37 (xc_V (pc' := 40) (r := r0) (as := [vI z139980]) (st := []) (lm_9_54) rfl rfl (Nat.le_of_ble_eq_true rfl) w139974 g0 sh_42 (by decide) rfl (by decide) (s_170 w139974 g0 ⟨by omega, by omega⟩) (fun R139984 T139985 H139986 p139987 => ?_))
      obtain ⟨e139988, w139990, f139991, z139992, e139989, b139993⟩ := p139987
      subst e139988
      subst e139989
      have f139994 := f139982.tr f139991 rfl
      show wp _ _ 250 40 [(3, vI z139980), (0, .ref r0), (1, vI a1), (2, vI a2)] [vI z139992] _ H139986 _
      refine wp_of e250 c250_40 (rw_goto (p1 := 53) (by decide) ?_)
      have k139995 : wKI H139986 r0 = wKI H139970 r0 := (wKI_fr w139974 g0 f139991 rfl)
      exact wp_ireturn e250 c250_53 rfl ⟨rfl, w139990, f139994, z139992, rfl, ⟨by omega, by omega⟩, by omega⟩
  · refine wp_of e250 c250_14 (rw_aload_n (pc' := 15) (v := .ref r0) rfl rfl rfl ?_)
    refine wp_of e250 c250_15 (rw_iload_n (pc' := 16) (z := a2) rfl rfl ?_)
    refine wp_of e250 c250_16 (xc_V (pc' := 19) (r := r0) (as := [vI a2]) (st := [.ref r0]) (lm_9_373) rfl rfl (Nat.le_of_ble_eq_true rfl) w139953 g0 sh_42 (by decide) rfl (by decide) (s_218 w139953 g0 ⟨by omega, by omega⟩) (fun R139996 T139997 H139998 p139999 => ?_))
    obtain ⟨e140000, e140002, z140004, e140001, b140005, p140003⟩ := p139999
    subst e140000
    subst e140001
    subst e140002
    show wp _ _ 250 19 [(0, .ref r0), (1, vI a1), (2, vI a2)] [vI z140004, .ref r0] _ H139951 _
    refine wp_of e250 c250_19 (rw_if_eq (p1 := 26) (p2 := 22) (by decide) rfl ⟨by omega, by omega⟩ (fun c140006 => ?_) (fun c140006 => ?_))
    · refine wp_of e250 c250_26 (rw_iconst (pc' := 27) rfl ?_)
      have k140007 : wKI H139951 r0 = wKI H r0 := (wKI_fr hW g0 ((wfr.rf (l := [(42, 0)])).put' e139952 g0 rfl) rfl)
      refine wp_of e250 c250_27 (xc_V (pc' := 30) (r := r0) (as := [vI 0]) (st := []) (lm_9_433) rfl rfl (Nat.le_of_ble_eq_true rfl) w139953 g0 sh_42 (by decide) rfl (by decide) (s_241 w139953 g0 ⟨by omega, by omega⟩ (by omega) (by omega)) (fun R140008 T140009 H140010 p140011 => ?_))
      obtain ⟨e140012, w140014, f140015, z140020, e140013, b140021, p140016, p140017, p140018, p140019⟩ := p140011
      subst e140012
      subst e140013
      have f140022 := f139954.tr f140015 rfl
      show wp _ _ 250 30 [(0, .ref r0), (1, vI a1), (2, vI a2)] [vI z140020] _ H140010 _
      refine wp_of e250 c250_30 (rw_istore_n (pc' := 31) (z := z140020) (L' := [(3, vI z140020), (0, .ref r0), (1, vI a1), (2, vI a2)]) rfl rfl rfl ?_)
      refine wp_of e250 c250_31 (rw_iload_n (pc' := 32) (z := z140020) rfl rfl ?_)
      refine wp_of e250 c250_32 (rw_if_le (p1 := 43) (p2 := 35) (by decide) rfl ⟨by omega, by omega⟩ (fun c140023 => ?_) (fun c140023 => ?_))
      · exfalso
        omega
      · refine wp_of e250 c250_35 (rw_aload_n (pc' := 36) (v := .ref r0) rfl rfl rfl ?_)
        refine wp_of e250 c250_36 (rw_iload_n (pc' := 37) (z := z140020) rfl rfl ?_)
        refine wp_of e250 c250_37 (xc_V (pc' := 40) (r := r0) (as := [vI z140020]) (st := []) (lm_9_54) rfl rfl (Nat.le_of_ble_eq_true rfl) w140014 g0 sh_42 (by decide) rfl (by decide) (s_170 w140014 g0 ⟨by omega, by omega⟩) (fun R140024 T140025 H140026 p140027 => ?_))
        obtain ⟨e140028, w140030, f140031, z140032, e140029, b140033⟩ := p140027
        subst e140028
        subst e140029
        have f140034 := f140022.tr f140031 rfl
        show wp _ _ 250 40 [(3, vI z140020), (0, .ref r0), (1, vI a1), (2, vI a2)] [vI z140032] _ H140026 _
        refine wp_of e250 c250_40 (rw_goto (p1 := 53) (by decide) ?_)
        have k140035 : wKI H140026 r0 = wKI H140010 r0 := (wKI_fr w140014 g0 f140031 rfl)
        exact wp_ireturn e250 c250_53 rfl ⟨rfl, w140030, f140034, z140032, rfl, ⟨by omega, by omega⟩, by omega⟩
    · refine wp_of e250 c250_22 (rw_iconst (pc' := 23) rfl ?_)
      refine wp_of e250 c250_23 (rw_goto (p1 := 27) (by decide) ?_)
      have k140036 : wKI H139951 r0 = wKI H r0 := (wKI_fr hW g0 ((wfr.rf (l := [(42, 0)])).put' e139952 g0 rfl) rfl)
      refine wp_of e250 c250_27 (xc_V (pc' := 30) (r := r0) (as := [vI 1]) (st := []) (lm_9_433) rfl rfl (Nat.le_of_ble_eq_true rfl) w139953 g0 sh_42 (by decide) rfl (by decide) (s_241 w139953 g0 ⟨by omega, by omega⟩ (by omega) (by omega)) (fun R140037 T140038 H140039 p140040 => ?_))
      obtain ⟨e140041, w140043, f140044, z140049, e140042, b140050, p140045, p140046, p140047, p140048⟩ := p140040
      subst e140041
      subst e140042
      have f140051 := f139954.tr f140044 rfl
      show wp _ _ 250 30 [(0, .ref r0), (1, vI a1), (2, vI a2)] [vI z140049] _ H140039 _
      refine wp_of e250 c250_30 (rw_istore_n (pc' := 31) (z := z140049) (L' := [(3, vI z140049), (0, .ref r0), (1, vI a1), (2, vI a2)]) rfl rfl rfl ?_)
      refine wp_of e250 c250_31 (rw_iload_n (pc' := 32) (z := z140049) rfl rfl ?_)
      refine wp_of e250 c250_32 (rw_if_le (p1 := 43) (p2 := 35) (by decide) rfl ⟨by omega, by omega⟩ (fun c140052 => ?_) (fun c140052 => ?_))
      · refine wp_of e250 c250_43 (rw_aload_n (pc' := 44) (v := .ref r0) rfl rfl rfl ?_)
        refine wp_of e250 c250_44 (rw_aload_n (pc' := 45) (v := .ref r0) rfl rfl rfl ?_)
        refine wp_of e250 c250_45 (rw_iload_n (pc' := 46) (z := a1) rfl rfl ?_)
        refine wp_of e250 c250_46 (rw_iload_n (pc' := 47) (z := a2) rfl rfl ?_)
        have k140053 : H140039 r0 3 = H139951 r0 3 := (f140044 r0 3 _ g0 rfl)
        obtain ⟨r140054, q140055, g140056⟩ := (w140043.opt g0 (t' := 54) (n := 33) (j := 3) (p := 0) (q := 0) rfl (by decide) rfl).resolve_left (by omega)
        refine wp_of e250 c250_47 (xc_V (pc' := 50) (r := r0) (as := [vI a1, vI a2]) (st := [.ref r0]) (lm_9_444) rfl rfl (Nat.le_of_ble_eq_true rfl) w140043 g0 sh_42 (by decide) rfl (by decide) (s_251 w140043 g0 ⟨by omega, by omega⟩ ⟨by omega, by omega⟩ q140055 g140056 (by omega)) (fun R140057 T140058 H140059 p140060 => ?_))
        obtain ⟨e140061, w140063, f140064, z140065, e140062, b140066⟩ := p140060
        subst e140061
        subst e140062
        have f140067 := f140051.tr f140064 rfl
        show wp _ _ 250 50 [(3, vI z140049), (0, .ref r0), (1, vI a1), (2, vI a2)] [vI z140065, .ref r0] _ H140059 _
        refine wp_of e250 c250_50 (xc_V (pc' := 53) (r := r0) (as := [vI z140065]) (st := []) (lm_9_58) rfl rfl (Nat.le_of_ble_eq_true rfl) w140063 g0 sh_42 (by decide) rfl (by decide) (s_209 w140063 g0 ⟨by omega, by omega⟩) (fun R140068 T140069 H140070 p140071 => ?_))
        obtain ⟨e140072, w140074, f140075, z140076, e140073, b140077⟩ := p140071
        subst e140072
        subst e140073
        have f140078 := f140067.tr f140075 rfl
        show wp _ _ 250 53 [(3, vI z140049), (0, .ref r0), (1, vI a1), (2, vI a2)] [vI z140076] _ H140070 _
        have k140079 : wKI H140070 r0 = wKI H140039 r0 := ((wKI_fr w140063 g0 f140075 rfl).trans (wKI_fr w140043 g0 f140064 rfl))
        exact wp_ireturn e250 c250_53 rfl ⟨rfl, w140074, f140078, z140076, rfl, ⟨by omega, by omega⟩, by omega⟩
      · refine wp_of e250 c250_35 (rw_aload_n (pc' := 36) (v := .ref r0) rfl rfl rfl ?_)
        refine wp_of e250 c250_36 (rw_iload_n (pc' := 37) (z := z140049) rfl rfl ?_)
        refine wp_of e250 c250_37 (xc_V (pc' := 40) (r := r0) (as := [vI z140049]) (st := []) (lm_9_54) rfl rfl (Nat.le_of_ble_eq_true rfl) w140043 g0 sh_42 (by decide) rfl (by decide) (s_170 w140043 g0 ⟨by omega, by omega⟩) (fun R140080 T140081 H140082 p140083 => ?_))
        obtain ⟨e140084, w140086, f140087, z140088, e140085, b140089⟩ := p140083
        subst e140084
        subst e140085
        have f140090 := f140051.tr f140087 rfl
        show wp _ _ 250 40 [(3, vI z140049), (0, .ref r0), (1, vI a1), (2, vI a2)] [vI z140088] _ H140082 _
        refine wp_of e250 c250_40 (rw_goto (p1 := 53) (by decide) ?_)
        have k140091 : wKI H140082 r0 = wKI H140039 r0 := (wKI_fr w140043 g0 f140087 rfl)
        exact wp_ireturn e250 c250_53 rfl ⟨rfl, w140086, f140090, z140088, rfl, ⟨by omega, by omega⟩, by omega⟩
/-! StrikeAwakeModel.refusesSome(Z)I -/
theorem e253 : wq_en 253 = some (9, 3, false, some FieldType.int) := rfl
theorem cg253_0 : mc_cd 253 0 = some (.aload_n 0, 1) ∧ mc_cd 253 1 = some (.iload_n 1, 1) ∧ mc_cd 253 2 = some (.invokevirtual 433, 3) ∧ mc_cd 253 5 = some (.istore_n 2, 1) ∧ mc_cd 253 6 = some (.iload_n 2, 1) ∧ mc_cd 253 7 = some (.ifCond .ne 15, 3) ∧ mc_cd 253 10 = some (.aload_n 0, 1) ∧ mc_cd 253 11 = some (.getfield 422, 3) := by decide +kernel
theorem c253_0 : mc_cd 253 0 = some (.aload_n 0, 1) := cg253_0.1
theorem c253_1 : mc_cd 253 1 = some (.iload_n 1, 1) := cg253_0.2.1
theorem c253_2 : mc_cd 253 2 = some (.invokevirtual 433, 3) := cg253_0.2.2.1
theorem c253_5 : mc_cd 253 5 = some (.istore_n 2, 1) := cg253_0.2.2.2.1
theorem c253_6 : mc_cd 253 6 = some (.iload_n 2, 1) := cg253_0.2.2.2.2.1
theorem c253_7 : mc_cd 253 7 = some (.ifCond .ne 15, 3) := cg253_0.2.2.2.2.2.1
theorem c253_10 : mc_cd 253 10 = some (.aload_n 0, 1) := cg253_0.2.2.2.2.2.2.1
theorem c253_11 : mc_cd 253 11 = some (.getfield 422, 3) := cg253_0.2.2.2.2.2.2.2
theorem cg253_14 : mc_cd 253 14 = some (.ifCond .ne 8, 3) ∧ mc_cd 253 17 = some (.bipush 6, 2) ∧ mc_cd 253 19 = some (.goto 4, 3) ∧ mc_cd 253 22 = some (.iload_n 2, 1) ∧ mc_cd 253 23 = some (.ireturn, 1) := by decide +kernel
theorem c253_14 : mc_cd 253 14 = some (.ifCond .ne 8, 3) := cg253_14.1
theorem c253_17 : mc_cd 253 17 = some (.bipush 6, 2) := cg253_14.2.1
theorem c253_19 : mc_cd 253 19 = some (.goto 4, 3) := cg253_14.2.2.1
theorem c253_22 : mc_cd 253 22 = some (.iload_n 2, 1) := cg253_14.2.2.2.1
theorem c253_23 : mc_cd 253 23 = some (.ireturn, 1) := cg253_14.2.2.2.2
abbrev q_253 (r0 : Nat) (a1 : Int) (T : wq_T) (H : wq_H) : Option Value → wq_T → wq_H → Prop := fun r T' H' => T = T' ∧ WT T H' ∧ wfr [(42, 28), (42, 29), (51, 999), (52, 999)] T H H' ∧ ∃ z : Int, some (vI z) = r ∧ (0 ≤ z ∧ z ≤ 6) ∧ (z ≠ 0 ∨ a1 = 1) ∧ (z ≠ 0 ∨ wLM H' r0 ≤ 20000) ∧ (wKI H' r0 = 1) ∧ (z ≠ 0 ∨ (0 < H' r0 29 ∧ 0 < wLM H' r0))
set_option maxHeartbeats 4000000 in
theorem s_253 {kt : Nat → Option mc_E} {T : wq_T} {H : wq_H} {r0 : Nat} {a1 : Int} (hW : WT T H) (g0 : T.2.2.2 r0 = some 42) (i1 : 0 ≤ a1 ∧ a1 ≤ 1) (p0 : a1 = 0 ∨ H r0 3 ≠ -1) (p1 : wKI H r0 = 1) : wpc kt 8 253 [.ref r0, vI a1] T H (q_253 r0 a1 T H) := by
  refine wp_enter e253 (Nat.le_of_ble_eq_true rfl) rfl ?_
  have f0 : wfr [(42, 28), (42, 29), (51, 999), (52, 999)] T H H := wfr.rf
  show wp _ _ 253 0 [(0, .ref r0), (1, vI a1)] [] _ H _
  refine wp_of e253 c253_0 (rw_aload_n (pc' := 1) (v := .ref r0) rfl rfl rfl ?_)
  refine wp_of e253 c253_1 (rw_iload_n (pc' := 2) (z := a1) rfl rfl ?_)
  refine wp_of e253 c253_2 (xc_V (pc' := 5) (r := r0) (as := [vI a1]) (st := []) (lm_9_433) rfl rfl (Nat.le_of_ble_eq_true rfl) hW g0 sh_42 (by decide) rfl (by decide) (s_241 hW g0 ⟨by omega, by omega⟩ (by omega) (by omega)) (fun R140111 T140112 H140113 p140114 => ?_))
  obtain ⟨e140115, w140117, f140118, z140123, e140116, b140124, p140119, p140120, p140121, p140122⟩ := p140114
  subst e140115
  subst e140116
  have f140125 := f0.tr f140118 rfl
  show wp _ _ 253 5 [(0, .ref r0), (1, vI a1)] [vI z140123] _ H140113 _
  refine wp_of e253 c253_5 (rw_istore_n (pc' := 6) (z := z140123) (L' := [(2, vI z140123), (0, .ref r0), (1, vI a1)]) rfl rfl rfl ?_)
  refine wp_of e253 c253_6 (rw_iload_n (pc' := 7) (z := z140123) rfl rfl ?_)
  refine wp_of e253 c253_7 (rw_if_ne (p1 := 22) (p2 := 10) (by decide) rfl ⟨by omega, by omega⟩ (fun c140126 => ?_) (fun c140126 => ?_))
  · refine wp_of e253 c253_22 (rw_iload_n (pc' := 23) (z := z140123) rfl rfl ?_)
    exact wp_ireturn e253 c253_23 rfl ⟨rfl, w140117, f140125, z140123, rfl, ⟨by omega, by omega⟩, by omega, by omega, by omega, by omega⟩
  · refine wp_of e253 c253_10 (rw_aload_n (pc' := 11) (v := .ref r0) rfl rfl rfl ?_)
    refine wp_of e253 c253_11 (xg_I (pc' := 14) lf_9_422 w140117 g0 sh_42 (by decide) (by decide) ty_42_29 rfl rfl (fun b140127 b140128 => ?_))
    refine wp_of e253 c253_14 (rw_if_ne (p1 := 22) (p2 := 17) (by decide) rfl ⟨by omega, by omega⟩ (fun c140129 => ?_) (fun c140129 => ?_))
    · refine wp_of e253 c253_22 (rw_iload_n (pc' := 23) (z := z140123) rfl rfl ?_)
      exact wp_ireturn e253 c253_23 rfl ⟨rfl, w140117, f140125, z140123, rfl, ⟨by omega, by omega⟩, by omega, by omega, by omega, by omega⟩
    · refine wp_of e253 c253_17 (rw_bipush (pc' := 19) (z := 6) rfl (by decide) ?_)
      refine wp_of e253 c253_19 (rw_goto (p1 := 23) (by decide) ?_)
      exact wp_ireturn e253 c253_23 rfl ⟨rfl, w140117, f140125, 6, rfl, ⟨by omega, by omega⟩, by omega, by omega, by omega, by omega⟩
/-! StrikeAwakeModel.sure(II)I -/
theorem e252 : wq_en 252 = some (9, 5, false, some FieldType.int) := rfl
theorem cg252_0 : mc_cd 252 0 = some (.aload_n 0, 1) ∧ mc_cd 252 1 = some (.iconst 0, 1) ∧ mc_cd 252 2 = some (.putfield 48, 3) ∧ mc_cd 252 5 = some (.aload_n 0, 1) ∧ mc_cd 252 6 = some (.aload_n 0, 1) ∧ mc_cd 252 7 = some (.iload_n 1, 1) ∧ mc_cd 252 8 = some (.invokevirtual 364, 3) ∧ mc_cd 252 11 = some (.ifCond .eq 15, 3) := by decide +kernel
theorem c252_0 : mc_cd 252 0 = some (.aload_n 0, 1) := cg252_0.1
theorem c252_1 : mc_cd 252 1 = some (.iconst 0, 1) := cg252_0.2.1
theorem c252_2 : mc_cd 252 2 = some (.putfield 48, 3) := cg252_0.2.2.1
theorem c252_5 : mc_cd 252 5 = some (.aload_n 0, 1) := cg252_0.2.2.2.1
theorem c252_6 : mc_cd 252 6 = some (.aload_n 0, 1) := cg252_0.2.2.2.2.1
theorem c252_7 : mc_cd 252 7 = some (.iload_n 1, 1) := cg252_0.2.2.2.2.2.1
theorem c252_8 : mc_cd 252 8 = some (.invokevirtual 364, 3) := cg252_0.2.2.2.2.2.2.1
theorem c252_11 : mc_cd 252 11 = some (.ifCond .eq 15, 3) := cg252_0.2.2.2.2.2.2.2
theorem cg252_14 : mc_cd 252 14 = some (.aload_n 0, 1) ∧ mc_cd 252 15 = some (.iload_n 2, 1) ∧ mc_cd 252 16 = some (.invokevirtual 373, 3) ∧ mc_cd 252 19 = some (.ifCond .eq 7, 3) ∧ mc_cd 252 22 = some (.iconst 1, 1) ∧ mc_cd 252 23 = some (.goto 4, 3) ∧ mc_cd 252 26 = some (.iconst 0, 1) ∧ mc_cd 252 27 = some (.invokevirtual 447, 3) := by decide +kernel
theorem c252_14 : mc_cd 252 14 = some (.aload_n 0, 1) := cg252_14.1
theorem c252_15 : mc_cd 252 15 = some (.iload_n 2, 1) := cg252_14.2.1
theorem c252_16 : mc_cd 252 16 = some (.invokevirtual 373, 3) := cg252_14.2.2.1
theorem c252_19 : mc_cd 252 19 = some (.ifCond .eq 7, 3) := cg252_14.2.2.2.1
theorem c252_22 : mc_cd 252 22 = some (.iconst 1, 1) := cg252_14.2.2.2.2.1
theorem c252_23 : mc_cd 252 23 = some (.goto 4, 3) := cg252_14.2.2.2.2.2.1
theorem c252_26 : mc_cd 252 26 = some (.iconst 0, 1) := cg252_14.2.2.2.2.2.2.1
theorem c252_27 : mc_cd 252 27 = some (.invokevirtual 447, 3) := cg252_14.2.2.2.2.2.2.2
theorem cg252_30 : mc_cd 252 30 = some (.istore_n 3, 1) ∧ mc_cd 252 31 = some (.iload_n 3, 1) ∧ mc_cd 252 32 = some (.ifCond .le 9, 3) ∧ mc_cd 252 35 = some (.aload_n 0, 1) ∧ mc_cd 252 36 = some (.iload_n 3, 1) ∧ mc_cd 252 37 = some (.invokevirtual 54, 3) ∧ mc_cd 252 40 = some (.ireturn, 1) ∧ mc_cd 252 41 = some (.aload_n 0, 1) := by decide +kernel
theorem c252_30 : mc_cd 252 30 = some (.istore_n 3, 1) := cg252_30.1
theorem c252_31 : mc_cd 252 31 = some (.iload_n 3, 1) := cg252_30.2.1
theorem c252_32 : mc_cd 252 32 = some (.ifCond .le 9, 3) := cg252_30.2.2.1
theorem c252_35 : mc_cd 252 35 = some (.aload_n 0, 1) := cg252_30.2.2.2.1
theorem c252_36 : mc_cd 252 36 = some (.iload_n 3, 1) := cg252_30.2.2.2.2.1
theorem c252_37 : mc_cd 252 37 = some (.invokevirtual 54, 3) := cg252_30.2.2.2.2.2.1
theorem c252_40 : mc_cd 252 40 = some (.ireturn, 1) := cg252_30.2.2.2.2.2.2.1
theorem c252_41 : mc_cd 252 41 = some (.aload_n 0, 1) := cg252_30.2.2.2.2.2.2.2
theorem cg252_42 : mc_cd 252 42 = some (.iload_n 1, 1) ∧ mc_cd 252 43 = some (.iload_n 2, 1) ∧ mc_cd 252 44 = some (.invokevirtual 444, 3) ∧ mc_cd 252 47 = some (.istore 4, 2) ∧ mc_cd 252 49 = some (.aload_n 0, 1) ∧ mc_cd 252 50 = some (.iload 4, 2) ∧ mc_cd 252 52 = some (.aload_n 0, 1) ∧ mc_cd 252 53 = some (.getfield 422, 3) := by decide +kernel
theorem c252_42 : mc_cd 252 42 = some (.iload_n 1, 1) := cg252_42.1
theorem c252_43 : mc_cd 252 43 = some (.iload_n 2, 1) := cg252_42.2.1
theorem c252_44 : mc_cd 252 44 = some (.invokevirtual 444, 3) := cg252_42.2.2.1
theorem c252_47 : mc_cd 252 47 = some (.istore 4, 2) := cg252_42.2.2.2.1
theorem c252_49 : mc_cd 252 49 = some (.aload_n 0, 1) := cg252_42.2.2.2.2.1
theorem c252_50 : mc_cd 252 50 = some (.iload 4, 2) := cg252_42.2.2.2.2.2.1
theorem c252_52 : mc_cd 252 52 = some (.aload_n 0, 1) := cg252_42.2.2.2.2.2.2.1
theorem c252_53 : mc_cd 252 53 = some (.getfield 422, 3) := cg252_42.2.2.2.2.2.2.2
theorem cg252_56 : mc_cd 252 56 = some (.if_icmp .ne 7, 3) ∧ mc_cd 252 59 = some (.iconst 2, 1) ∧ mc_cd 252 60 = some (.goto 13, 3) ∧ mc_cd 252 63 = some (.iload 4, 2) ∧ mc_cd 252 65 = some (.ifCond .ne 7, 3) ∧ mc_cd 252 68 = some (.iconst 0, 1) ∧ mc_cd 252 69 = some (.goto 4, 3) ∧ mc_cd 252 72 = some (.iconst 1, 1) := by decide +kernel
theorem c252_56 : mc_cd 252 56 = some (.if_icmp .ne 7, 3) := cg252_56.1
theorem c252_59 : mc_cd 252 59 = some (.iconst 2, 1) := cg252_56.2.1
theorem c252_60 : mc_cd 252 60 = some (.goto 13, 3) := cg252_56.2.2.1
theorem c252_63 : mc_cd 252 63 = some (.iload 4, 2) := cg252_56.2.2.2.1
theorem c252_65 : mc_cd 252 65 = some (.ifCond .ne 7, 3) := cg252_56.2.2.2.2.1
theorem c252_68 : mc_cd 252 68 = some (.iconst 0, 1) := cg252_56.2.2.2.2.2.1
theorem c252_69 : mc_cd 252 69 = some (.goto 4, 3) := cg252_56.2.2.2.2.2.2.1
theorem c252_72 : mc_cd 252 72 = some (.iconst 1, 1) := cg252_56.2.2.2.2.2.2.2
theorem cg252_73 : mc_cd 252 73 = some (.invokevirtual 58, 3) ∧ mc_cd 252 76 = some (.ireturn, 1) := by decide +kernel
theorem c252_73 : mc_cd 252 73 = some (.invokevirtual 58, 3) := cg252_73.1
theorem c252_76 : mc_cd 252 76 = some (.ireturn, 1) := cg252_73.2
abbrev q_252 (r0 : Nat) (a1 : Int) (a2 : Int) (T : wq_T) (H : wq_H) : Option Value → wq_T → wq_H → Prop := fun r T' H' => T = T' ∧ WT T H' ∧ wfr [(42, 0), (42, 1), (42, 2), (42, 28), (42, 29), (51, 999), (52, 999)] T H H' ∧ ∃ z : Int, some (vI z) = r ∧ ((-2147483648) ≤ z ∧ z ≤ 2147483647) ∧ (wKI H' r0 = 1)
set_option maxHeartbeats 4000000 in
theorem s_252 {kt : Nat → Option mc_E} {T : wq_T} {H : wq_H} {r0 : Nat} {a1 : Int} {a2 : Int} (hW : WT T H) (g0 : T.2.2.2 r0 = some 42) (i1 : (-2147483648) ≤ a1 ∧ a1 ≤ 2147483647) (i2 : (-2147483648) ≤ a2 ∧ a2 ≤ 2147483647) (p0 : wKI H r0 = 1) : wpc kt 9 252 [.ref r0, vI a1, vI a2] T H (q_252 r0 a1 a2 T H) := by
  refine wp_enter e252 (Nat.le_of_ble_eq_true rfl) rfl ?_
  have f0 : wfr [(42, 0), (42, 1), (42, 2), (42, 28), (42, 29), (51, 999), (52, 999)] T H H := wfr.rf
  show wp _ _ 252 0 [(0, .ref r0), (1, vI a1), (2, vI a2)] [] _ H _
  refine wp_of e252 c252_0 (rw_aload_n (pc' := 1) (v := .ref r0) rfl rfl rfl ?_)
  refine wp_of e252 c252_1 (rw_iconst (pc' := 2) rfl ?_)
  refine wp_of e252 c252_2 (xp_I (pc' := 5) lf_9_48 hW g0 sh_42 (by decide) (by decide) ty_42_0 rfl rfl (by omega) (by omega) ⟨by omega, by omega⟩ rfl (fun H140300 e140301 w140302 => ?_))
  have f140303 := f0.put' e140301 g0 rfl
  have k140304 : H140300 r0 0 = 0 := wq_u_s e140301
  refine wp_of e252 c252_5 (rw_aload_n (pc' := 6) (v := .ref r0) rfl rfl rfl ?_)
  refine wp_of e252 c252_6 (rw_aload_n (pc' := 7) (v := .ref r0) rfl rfl rfl ?_)
  refine wp_of e252 c252_7 (rw_iload_n (pc' := 8) (z := a1) rfl rfl ?_)
  refine wp_of e252 c252_8 (xc_V (pc' := 11) (r := r0) (as := [vI a1]) (st := [.ref r0]) (lm_9_364) rfl rfl (Nat.le_of_ble_eq_true rfl) w140302 g0 sh_42 (by decide) rfl (by decide) (s_213 w140302 g0 ⟨by omega, by omega⟩) (fun R140305 T140306 H140307 p140308 => ?_))
  obtain ⟨e140309, e140311, z140313, e140310, b140314, p140312⟩ := p140308
  subst e140309
  subst e140310
  subst e140311
  show wp _ _ 252 11 [(0, .ref r0), (1, vI a1), (2, vI a2)] [vI z140313, .ref r0] _ H140300 _
  refine wp_of e252 c252_11 (rw_if_eq (p1 := 26) (p2 := 14) (by decide) rfl ⟨by omega, by omega⟩ (fun c140315 => ?_) (fun c140315 => ?_))
  · refine wp_of e252 c252_26 (rw_iconst (pc' := 27) rfl ?_)
    have k140316 : wKI H140300 r0 = wKI H r0 := (wKI_fr hW g0 ((wfr.rf (l := [(42, 0)])).put' e140301 g0 rfl) rfl)
    refine wp_of e252 c252_27 (xc_V (pc' := 30) (r := r0) (as := [vI 0]) (st := []) (lm_9_447) rfl rfl (Nat.le_of_ble_eq_true rfl) w140302 g0 sh_42 (by decide) rfl (by decide) (s_253 w140302 g0 ⟨by omega, by omega⟩ (by omega) (by omega)) (fun R140317 T140318 H140319 p140320 => ?_))
    obtain ⟨e140321, w140323, f140324, z140329, e140322, b140330, p140325, p140326, p140327, p140328⟩ := p140320
    subst e140321
    subst e140322
    have f140331 := f140303.tr f140324 rfl
    show wp _ _ 252 30 [(0, .ref r0), (1, vI a1), (2, vI a2)] [vI z140329] _ H140319 _
    refine wp_of e252 c252_30 (rw_istore_n (pc' := 31) (z := z140329) (L' := [(3, vI z140329), (0, .ref r0), (1, vI a1), (2, vI a2)]) rfl rfl rfl ?_)
    refine wp_of e252 c252_31 (rw_iload_n (pc' := 32) (z := z140329) rfl rfl ?_)
    refine wp_of e252 c252_32 (rw_if_le (p1 := 41) (p2 := 35) (by decide) rfl ⟨by omega, by omega⟩ (fun c140332 => ?_) (fun c140332 => ?_))
    · exfalso
      omega
    · refine wp_of e252 c252_35 (rw_aload_n (pc' := 36) (v := .ref r0) rfl rfl rfl ?_)
      refine wp_of e252 c252_36 (rw_iload_n (pc' := 37) (z := z140329) rfl rfl ?_)
      refine wp_of e252 c252_37 (xc_V (pc' := 40) (r := r0) (as := [vI z140329]) (st := []) (lm_9_54) rfl rfl (Nat.le_of_ble_eq_true rfl) w140323 g0 sh_42 (by decide) rfl (by decide) (s_170 w140323 g0 ⟨by omega, by omega⟩) (fun R140333 T140334 H140335 p140336 => ?_))
      obtain ⟨e140337, w140339, f140340, z140341, e140338, b140342⟩ := p140336
      subst e140337
      subst e140338
      have f140343 := f140331.tr f140340 rfl
      show wp _ _ 252 40 [(3, vI z140329), (0, .ref r0), (1, vI a1), (2, vI a2)] [vI z140341] _ H140335 _
      have k140344 : wKI H140335 r0 = wKI H140319 r0 := (wKI_fr w140323 g0 f140340 rfl)
      exact wp_ireturn e252 c252_40 rfl ⟨rfl, w140339, f140343, z140341, rfl, ⟨by omega, by omega⟩, by omega⟩
  · refine wp_of e252 c252_14 (rw_aload_n (pc' := 15) (v := .ref r0) rfl rfl rfl ?_)
    refine wp_of e252 c252_15 (rw_iload_n (pc' := 16) (z := a2) rfl rfl ?_)
    refine wp_of e252 c252_16 (xc_V (pc' := 19) (r := r0) (as := [vI a2]) (st := [.ref r0]) (lm_9_373) rfl rfl (Nat.le_of_ble_eq_true rfl) w140302 g0 sh_42 (by decide) rfl (by decide) (s_218 w140302 g0 ⟨by omega, by omega⟩) (fun R140345 T140346 H140347 p140348 => ?_))
    obtain ⟨e140349, e140351, z140353, e140350, b140354, p140352⟩ := p140348
    subst e140349
    subst e140350
    subst e140351
    show wp _ _ 252 19 [(0, .ref r0), (1, vI a1), (2, vI a2)] [vI z140353, .ref r0] _ H140300 _
    refine wp_of e252 c252_19 (rw_if_eq (p1 := 26) (p2 := 22) (by decide) rfl ⟨by omega, by omega⟩ (fun c140355 => ?_) (fun c140355 => ?_))
    · refine wp_of e252 c252_26 (rw_iconst (pc' := 27) rfl ?_)
      have k140356 : wKI H140300 r0 = wKI H r0 := (wKI_fr hW g0 ((wfr.rf (l := [(42, 0)])).put' e140301 g0 rfl) rfl)
      refine wp_of e252 c252_27 (xc_V (pc' := 30) (r := r0) (as := [vI 0]) (st := []) (lm_9_447) rfl rfl (Nat.le_of_ble_eq_true rfl) w140302 g0 sh_42 (by decide) rfl (by decide) (s_253 w140302 g0 ⟨by omega, by omega⟩ (by omega) (by omega)) (fun R140357 T140358 H140359 p140360 => ?_))
      obtain ⟨e140361, w140363, f140364, z140369, e140362, b140370, p140365, p140366, p140367, p140368⟩ := p140360
      subst e140361
      subst e140362
      have f140371 := f140303.tr f140364 rfl
      show wp _ _ 252 30 [(0, .ref r0), (1, vI a1), (2, vI a2)] [vI z140369] _ H140359 _
      refine wp_of e252 c252_30 (rw_istore_n (pc' := 31) (z := z140369) (L' := [(3, vI z140369), (0, .ref r0), (1, vI a1), (2, vI a2)]) rfl rfl rfl ?_)
      refine wp_of e252 c252_31 (rw_iload_n (pc' := 32) (z := z140369) rfl rfl ?_)
      refine wp_of e252 c252_32 (rw_if_le (p1 := 41) (p2 := 35) (by decide) rfl ⟨by omega, by omega⟩ (fun c140372 => ?_) (fun c140372 => ?_))
      · exfalso
        omega
      · refine wp_of e252 c252_35 (rw_aload_n (pc' := 36) (v := .ref r0) rfl rfl rfl ?_)
        refine wp_of e252 c252_36 (rw_iload_n (pc' := 37) (z := z140369) rfl rfl ?_)
        refine wp_of e252 c252_37 (xc_V (pc' := 40) (r := r0) (as := [vI z140369]) (st := []) (lm_9_54) rfl rfl (Nat.le_of_ble_eq_true rfl) w140363 g0 sh_42 (by decide) rfl (by decide) (s_170 w140363 g0 ⟨by omega, by omega⟩) (fun R140373 T140374 H140375 p140376 => ?_))
        obtain ⟨e140377, w140379, f140380, z140381, e140378, b140382⟩ := p140376
        subst e140377
        subst e140378
        have f140383 := f140371.tr f140380 rfl
        show wp _ _ 252 40 [(3, vI z140369), (0, .ref r0), (1, vI a1), (2, vI a2)] [vI z140381] _ H140375 _
        have k140384 : wKI H140375 r0 = wKI H140359 r0 := (wKI_fr w140363 g0 f140380 rfl)
        exact wp_ireturn e252 c252_40 rfl ⟨rfl, w140379, f140383, z140381, rfl, ⟨by omega, by omega⟩, by omega⟩
    · refine wp_of e252 c252_22 (rw_iconst (pc' := 23) rfl ?_)
      refine wp_of e252 c252_23 (rw_goto (p1 := 27) (by decide) ?_)
      have k140385 : wKI H140300 r0 = wKI H r0 := (wKI_fr hW g0 ((wfr.rf (l := [(42, 0)])).put' e140301 g0 rfl) rfl)
      refine wp_of e252 c252_27 (xc_V (pc' := 30) (r := r0) (as := [vI 1]) (st := []) (lm_9_447) rfl rfl (Nat.le_of_ble_eq_true rfl) w140302 g0 sh_42 (by decide) rfl (by decide) (s_253 w140302 g0 ⟨by omega, by omega⟩ (by omega) (by omega)) (fun R140386 T140387 H140388 p140389 => ?_))
      obtain ⟨e140390, w140392, f140393, z140398, e140391, b140399, p140394, p140395, p140396, p140397⟩ := p140389
      subst e140390
      subst e140391
      have f140400 := f140303.tr f140393 rfl
      show wp _ _ 252 30 [(0, .ref r0), (1, vI a1), (2, vI a2)] [vI z140398] _ H140388 _
      refine wp_of e252 c252_30 (rw_istore_n (pc' := 31) (z := z140398) (L' := [(3, vI z140398), (0, .ref r0), (1, vI a1), (2, vI a2)]) rfl rfl rfl ?_)
      refine wp_of e252 c252_31 (rw_iload_n (pc' := 32) (z := z140398) rfl rfl ?_)
      refine wp_of e252 c252_32 (rw_if_le (p1 := 41) (p2 := 35) (by decide) rfl ⟨by omega, by omega⟩ (fun c140401 => ?_) (fun c140401 => ?_))
      · refine wp_of e252 c252_41 (rw_aload_n (pc' := 42) (v := .ref r0) rfl rfl rfl ?_)
        refine wp_of e252 c252_42 (rw_iload_n (pc' := 43) (z := a1) rfl rfl ?_)
        refine wp_of e252 c252_43 (rw_iload_n (pc' := 44) (z := a2) rfl rfl ?_)
        have k140402 : H140388 r0 3 = H140300 r0 3 := (f140393 r0 3 _ g0 rfl)
        obtain ⟨r140403, q140404, g140405⟩ := (w140392.opt g0 (t' := 54) (n := 33) (j := 3) (p := 0) (q := 0) rfl (by decide) rfl).resolve_left (by omega)
        refine wp_of e252 c252_44 (xc_V (pc' := 47) (r := r0) (as := [vI a1, vI a2]) (st := []) (lm_9_444) rfl rfl (Nat.le_of_ble_eq_true rfl) w140392 g0 sh_42 (by decide) rfl (by decide) (s_251 w140392 g0 ⟨by omega, by omega⟩ ⟨by omega, by omega⟩ q140404 g140405 (by omega)) (fun R140406 T140407 H140408 p140409 => ?_))
        obtain ⟨e140410, w140412, f140413, z140414, e140411, b140415⟩ := p140409
        subst e140410
        subst e140411
        have f140416 := f140400.tr f140413 rfl
        show wp _ _ 252 47 [(3, vI z140398), (0, .ref r0), (1, vI a1), (2, vI a2)] [vI z140414] _ H140408 _
        refine wp_of e252 c252_47 (rw_istore (pc' := 49) (z := z140414) (L' := [(4, vI z140414), (3, vI z140398), (0, .ref r0), (1, vI a1), (2, vI a2)]) rfl rfl rfl ?_)
        refine wp_of e252 c252_49 (rw_aload_n (pc' := 50) (v := .ref r0) rfl rfl rfl ?_)
        refine wp_of e252 c252_50 (rw_iload (pc' := 52) (z := z140414) rfl rfl ?_)
        refine wp_of e252 c252_52 (rw_aload_n (pc' := 53) (v := .ref r0) rfl rfl rfl ?_)
        have k140417 : H140408 r0 29 = H140388 r0 29 := (f140413 r0 29 _ g0 rfl)
        refine wp_of e252 c252_53 (xg_I (pc' := 56) lf_9_422 w140412 g0 sh_42 (by decide) (by decide) ty_42_29 rfl rfl (fun b140418 b140419 => ?_))
        refine wp_of e252 c252_56 (rw_icmp_ne (p1 := 63) (p2 := 59) (by decide) rfl ⟨by omega, by omega⟩ ⟨by omega, by omega⟩ (fun c140420 => ?_) (fun c140420 => ?_))
        · refine wp_of e252 c252_63 (rw_iload (pc' := 65) (z := z140414) rfl rfl ?_)
          refine wp_of e252 c252_65 (rw_if_ne (p1 := 72) (p2 := 68) (by decide) rfl ⟨by omega, by omega⟩ (fun c140421 => ?_) (fun c140421 => ?_))
          · refine wp_of e252 c252_72 (rw_iconst (pc' := 73) rfl ?_)
            refine wp_of e252 c252_73 (xc_V (pc' := 76) (r := r0) (as := [vI 1]) (st := []) (lm_9_58) rfl rfl (Nat.le_of_ble_eq_true rfl) w140412 g0 sh_42 (by decide) rfl (by decide) (s_209 w140412 g0 ⟨by omega, by omega⟩) (fun R140422 T140423 H140424 p140425 => ?_))
            obtain ⟨e140426, w140428, f140429, z140430, e140427, b140431⟩ := p140425
            subst e140426
            subst e140427
            have f140432 := f140416.tr f140429 rfl
            show wp _ _ 252 76 [(4, vI z140414), (3, vI z140398), (0, .ref r0), (1, vI a1), (2, vI a2)] [vI z140430] _ H140424 _
            have k140433 : wKI H140424 r0 = wKI H140388 r0 := ((wKI_fr w140412 g0 f140429 rfl).trans (wKI_fr w140392 g0 f140413 rfl))
            exact wp_ireturn e252 c252_76 rfl ⟨rfl, w140428, f140432, z140430, rfl, ⟨by omega, by omega⟩, by omega⟩
          · refine wp_of e252 c252_68 (rw_iconst (pc' := 69) rfl ?_)
            refine wp_of e252 c252_69 (rw_goto (p1 := 73) (by decide) ?_)
            refine wp_of e252 c252_73 (xc_V (pc' := 76) (r := r0) (as := [vI 0]) (st := []) (lm_9_58) rfl rfl (Nat.le_of_ble_eq_true rfl) w140412 g0 sh_42 (by decide) rfl (by decide) (s_209 w140412 g0 ⟨by omega, by omega⟩) (fun R140434 T140435 H140436 p140437 => ?_))
            obtain ⟨e140438, w140440, f140441, z140442, e140439, b140443⟩ := p140437
            subst e140438
            subst e140439
            have f140444 := f140416.tr f140441 rfl
            show wp _ _ 252 76 [(4, vI z140414), (3, vI z140398), (0, .ref r0), (1, vI a1), (2, vI a2)] [vI z140442] _ H140436 _
            have k140445 : wKI H140436 r0 = wKI H140388 r0 := ((wKI_fr w140412 g0 f140441 rfl).trans (wKI_fr w140392 g0 f140413 rfl))
            exact wp_ireturn e252 c252_76 rfl ⟨rfl, w140440, f140444, z140442, rfl, ⟨by omega, by omega⟩, by omega⟩
        · refine wp_of e252 c252_59 (rw_iconst (pc' := 60) rfl ?_)
          refine wp_of e252 c252_60 (rw_goto (p1 := 73) (by decide) ?_)
          refine wp_of e252 c252_73 (xc_V (pc' := 76) (r := r0) (as := [vI 2]) (st := []) (lm_9_58) rfl rfl (Nat.le_of_ble_eq_true rfl) w140412 g0 sh_42 (by decide) rfl (by decide) (s_209 w140412 g0 ⟨by omega, by omega⟩) (fun R140446 T140447 H140448 p140449 => ?_))
          obtain ⟨e140450, w140452, f140453, z140454, e140451, b140455⟩ := p140449
          subst e140450
          subst e140451
          have f140456 := f140416.tr f140453 rfl
          show wp _ _ 252 76 [(4, vI z140414), (3, vI z140398), (0, .ref r0), (1, vI a1), (2, vI a2)] [vI z140454] _ H140448 _
          have k140457 : wKI H140448 r0 = wKI H140388 r0 := ((wKI_fr w140412 g0 f140453 rfl).trans (wKI_fr w140392 g0 f140413 rfl))
          exact wp_ireturn e252 c252_76 rfl ⟨rfl, w140452, f140456, z140454, rfl, ⟨by omega, by omega⟩, by omega⟩
      · refine wp_of e252 c252_35 (rw_aload_n (pc' := 36) (v := .ref r0) rfl rfl rfl ?_)
        refine wp_of e252 c252_36 (rw_iload_n (pc' := 37) (z := z140398) rfl rfl ?_)
        refine wp_of e252 c252_37 (xc_V (pc' := 40) (r := r0) (as := [vI z140398]) (st := []) (lm_9_54) rfl rfl (Nat.le_of_ble_eq_true rfl) w140392 g0 sh_42 (by decide) rfl (by decide) (s_170 w140392 g0 ⟨by omega, by omega⟩) (fun R140458 T140459 H140460 p140461 => ?_))
        obtain ⟨e140462, w140464, f140465, z140466, e140463, b140467⟩ := p140461
        subst e140462
        subst e140463
        have f140468 := f140400.tr f140465 rfl
        show wp _ _ 252 40 [(3, vI z140398), (0, .ref r0), (1, vI a1), (2, vI a2)] [vI z140466] _ H140460 _
        have k140469 : wKI H140460 r0 = wKI H140388 r0 := (wKI_fr w140392 g0 f140465 rfl)
        exact wp_ireturn e252 c252_40 rfl ⟨rfl, w140464, f140468, z140466, rfl, ⟨by omega, by omega⟩, by omega⟩
/-! StrikeAwakeModel.surely(IZ)I -/
theorem e254 : wq_en 254 = some (9, 6, false, some FieldType.int) := rfl
theorem cg254_0 : mc_cd 254 0 = some (.aload_n 0, 1) ∧ mc_cd 254 1 = some (.iconst 0, 1) ∧ mc_cd 254 2 = some (.putfield 48, 3) ∧ mc_cd 254 5 = some (.aload_n 0, 1) ∧ mc_cd 254 6 = some (.aload_n 0, 1) ∧ mc_cd 254 7 = some (.iload_n 1, 1) ∧ mc_cd 254 8 = some (.invokevirtual 373, 3) ∧ mc_cd 254 11 = some (.invokevirtual 447, 3) := by decide +kernel
theorem c254_0 : mc_cd 254 0 = some (.aload_n 0, 1) := cg254_0.1
theorem c254_1 : mc_cd 254 1 = some (.iconst 0, 1) := cg254_0.2.1
theorem c254_2 : mc_cd 254 2 = some (.putfield 48, 3) := cg254_0.2.2.1
theorem c254_5 : mc_cd 254 5 = some (.aload_n 0, 1) := cg254_0.2.2.2.1
theorem c254_6 : mc_cd 254 6 = some (.aload_n 0, 1) := cg254_0.2.2.2.2.1
theorem c254_7 : mc_cd 254 7 = some (.iload_n 1, 1) := cg254_0.2.2.2.2.2.1
theorem c254_8 : mc_cd 254 8 = some (.invokevirtual 373, 3) := cg254_0.2.2.2.2.2.2.1
theorem c254_11 : mc_cd 254 11 = some (.invokevirtual 447, 3) := cg254_0.2.2.2.2.2.2.2
theorem cg254_14 : mc_cd 254 14 = some (.istore_n 3, 1) ∧ mc_cd 254 15 = some (.iload_n 3, 1) ∧ mc_cd 254 16 = some (.ifCond .le 9, 3) ∧ mc_cd 254 19 = some (.aload_n 0, 1) ∧ mc_cd 254 20 = some (.iload_n 3, 1) ∧ mc_cd 254 21 = some (.invokevirtual 54, 3) ∧ mc_cd 254 24 = some (.ireturn, 1) ∧ mc_cd 254 25 = some (.iconst 0, 1) := by decide +kernel
theorem c254_14 : mc_cd 254 14 = some (.istore_n 3, 1) := cg254_14.1
theorem c254_15 : mc_cd 254 15 = some (.iload_n 3, 1) := cg254_14.2.1
theorem c254_16 : mc_cd 254 16 = some (.ifCond .le 9, 3) := cg254_14.2.2.1
theorem c254_19 : mc_cd 254 19 = some (.aload_n 0, 1) := cg254_14.2.2.2.1
theorem c254_20 : mc_cd 254 20 = some (.iload_n 3, 1) := cg254_14.2.2.2.2.1
theorem c254_21 : mc_cd 254 21 = some (.invokevirtual 54, 3) := cg254_14.2.2.2.2.2.1
theorem c254_24 : mc_cd 254 24 = some (.ireturn, 1) := cg254_14.2.2.2.2.2.2.1
theorem c254_25 : mc_cd 254 25 = some (.iconst 0, 1) := cg254_14.2.2.2.2.2.2.2
theorem cg254_26 : mc_cd 254 26 = some (.istore 4, 2) ∧ mc_cd 254 28 = some (.iconst 0, 1) ∧ mc_cd 254 29 = some (.istore 5, 2) ∧ mc_cd 254 31 = some (.iload 5, 2) ∧ mc_cd 254 33 = some (.aload_n 0, 1) ∧ mc_cd 254 34 = some (.getfield 337, 3) ∧ mc_cd 254 37 = some (.getfield 188, 3) ∧ mc_cd 254 40 = some (.if_icmp .ge 44, 3) := by decide +kernel
theorem c254_26 : mc_cd 254 26 = some (.istore 4, 2) := cg254_26.1
theorem c254_28 : mc_cd 254 28 = some (.iconst 0, 1) := cg254_26.2.1
theorem c254_29 : mc_cd 254 29 = some (.istore 5, 2) := cg254_26.2.2.1
theorem c254_31 : mc_cd 254 31 = some (.iload 5, 2) := cg254_26.2.2.2.1
theorem c254_33 : mc_cd 254 33 = some (.aload_n 0, 1) := cg254_26.2.2.2.2.1
theorem c254_34 : mc_cd 254 34 = some (.getfield 337, 3) := cg254_26.2.2.2.2.2.1
theorem c254_37 : mc_cd 254 37 = some (.getfield 188, 3) := cg254_26.2.2.2.2.2.2.1
theorem c254_40 : mc_cd 254 40 = some (.if_icmp .ge 44, 3) := cg254_26.2.2.2.2.2.2.2
theorem cg254_43 : mc_cd 254 43 = some (.iload 4, 2) ∧ mc_cd 254 45 = some (.aload_n 0, 1) ∧ mc_cd 254 46 = some (.iload 5, 2) ∧ mc_cd 254 48 = some (.iload_n 1, 1) ∧ mc_cd 254 49 = some (.invokevirtual 444, 3) ∧ mc_cd 254 52 = some (.iload_n 2, 1) ∧ mc_cd 254 53 = some (.ifCond .eq 10, 3) ∧ mc_cd 254 56 = some (.aload_n 0, 1) := by decide +kernel
theorem c254_43 : mc_cd 254 43 = some (.iload 4, 2) := cg254_43.1
theorem c254_45 : mc_cd 254 45 = some (.aload_n 0, 1) := cg254_43.2.1
theorem c254_46 : mc_cd 254 46 = some (.iload 5, 2) := cg254_43.2.2.1
theorem c254_48 : mc_cd 254 48 = some (.iload_n 1, 1) := cg254_43.2.2.2.1
theorem c254_49 : mc_cd 254 49 = some (.invokevirtual 444, 3) := cg254_43.2.2.2.2.1
theorem c254_52 : mc_cd 254 52 = some (.iload_n 2, 1) := cg254_43.2.2.2.2.2.1
theorem c254_53 : mc_cd 254 53 = some (.ifCond .eq 10, 3) := cg254_43.2.2.2.2.2.2.1
theorem c254_56 : mc_cd 254 56 = some (.aload_n 0, 1) := cg254_43.2.2.2.2.2.2.2
theorem cg254_57 : mc_cd 254 57 = some (.getfield 422, 3) ∧ mc_cd 254 60 = some (.goto 4, 3) ∧ mc_cd 254 63 = some (.iconst 0, 1) ∧ mc_cd 254 64 = some (.if_icmp .ne 10, 3) ∧ mc_cd 254 67 = some (.iconst 1, 1) ∧ mc_cd 254 68 = some (.iload 5, 2) ∧ mc_cd 254 70 = some (.ishl, 1) ∧ mc_cd 254 71 = some (.goto 4, 3) := by decide +kernel
theorem c254_57 : mc_cd 254 57 = some (.getfield 422, 3) := cg254_57.1
theorem c254_60 : mc_cd 254 60 = some (.goto 4, 3) := cg254_57.2.1
theorem c254_63 : mc_cd 254 63 = some (.iconst 0, 1) := cg254_57.2.2.1
theorem c254_64 : mc_cd 254 64 = some (.if_icmp .ne 10, 3) := cg254_57.2.2.2.1
theorem c254_67 : mc_cd 254 67 = some (.iconst 1, 1) := cg254_57.2.2.2.2.1
theorem c254_68 : mc_cd 254 68 = some (.iload 5, 2) := cg254_57.2.2.2.2.2.1
theorem c254_70 : mc_cd 254 70 = some (.ishl, 1) := cg254_57.2.2.2.2.2.2.1
theorem c254_71 : mc_cd 254 71 = some (.goto 4, 3) := cg254_57.2.2.2.2.2.2.2
theorem cg254_74 : mc_cd 254 74 = some (.iconst 0, 1) ∧ mc_cd 254 75 = some (.ior, 1) ∧ mc_cd 254 76 = some (.istore 4, 2) ∧ mc_cd 254 78 = some (.iinc 5 1, 3) ∧ mc_cd 254 81 = some (.goto (-50), 3) ∧ mc_cd 254 84 = some (.aload_n 0, 1) ∧ mc_cd 254 85 = some (.iload 4, 2) ∧ mc_cd 254 87 = some (.invokevirtual 58, 3) := by decide +kernel
theorem c254_74 : mc_cd 254 74 = some (.iconst 0, 1) := cg254_74.1
theorem c254_75 : mc_cd 254 75 = some (.ior, 1) := cg254_74.2.1
theorem c254_76 : mc_cd 254 76 = some (.istore 4, 2) := cg254_74.2.2.1
theorem c254_78 : mc_cd 254 78 = some (.iinc 5 1, 3) := cg254_74.2.2.2.1
theorem c254_81 : mc_cd 254 81 = some (.goto (-50), 3) := cg254_74.2.2.2.2.1
theorem c254_84 : mc_cd 254 84 = some (.aload_n 0, 1) := cg254_74.2.2.2.2.2.1
theorem c254_85 : mc_cd 254 85 = some (.iload 4, 2) := cg254_74.2.2.2.2.2.2.1
theorem c254_87 : mc_cd 254 87 = some (.invokevirtual 58, 3) := cg254_74.2.2.2.2.2.2.2
theorem c254_90 : mc_cd 254 90 = some (.ireturn, 1) := by decide +kernel
abbrev q_254 (r0 : Nat) (a1 : Int) (a2 : Int) (T : wq_T) (H : wq_H) : Option Value → wq_T → wq_H → Prop := fun r T' H' => T = T' ∧ WT T H' ∧ wfr [(42, 0), (42, 1), (42, 2), (42, 28), (42, 29), (51, 999), (52, 999)] T H H' ∧ ∃ z : Int, some (vI z) = r ∧ ((-2147483648) ≤ z ∧ z ≤ 2147483647) ∧ (wKI H' r0 = 1)
set_option maxHeartbeats 4000000 in
theorem s_254 {kt : Nat → Option mc_E} {T : wq_T} {H : wq_H} {r0 : Nat} {a1 : Int} {a2 : Int} (hW : WT T H) (g0 : T.2.2.2 r0 = some 42) (i1 : (-2147483648) ≤ a1 ∧ a1 ≤ 2147483647) (i2 : 0 ≤ a2 ∧ a2 ≤ 1) (p0 : wKI H r0 = 1) : wpc kt 9 254 [.ref r0, vI a1, vI a2] T H (q_254 r0 a1 a2 T H) := by
  refine wp_enter e254 (Nat.le_of_ble_eq_true rfl) rfl ?_
  have f0 : wfr [(42, 0), (42, 1), (42, 2), (42, 28), (42, 29), (51, 999), (52, 999)] T H H := wfr.rf
  show wp _ _ 254 0 [(0, .ref r0), (1, vI a1), (2, vI a2)] [] _ H _
  refine wp_of e254 c254_0 (rw_aload_n (pc' := 1) (v := .ref r0) rfl rfl rfl ?_)
  refine wp_of e254 c254_1 (rw_iconst (pc' := 2) rfl ?_)
  refine wp_of e254 c254_2 (xp_I (pc' := 5) lf_9_48 hW g0 sh_42 (by decide) (by decide) ty_42_0 rfl rfl (by omega) (by omega) ⟨by omega, by omega⟩ rfl (fun H140831 e140832 w140833 => ?_))
  have f140834 := f0.put' e140832 g0 rfl
  have k140835 : H140831 r0 0 = 0 := wq_u_s e140832
  refine wp_of e254 c254_5 (rw_aload_n (pc' := 6) (v := .ref r0) rfl rfl rfl ?_)
  refine wp_of e254 c254_6 (rw_aload_n (pc' := 7) (v := .ref r0) rfl rfl rfl ?_)
  refine wp_of e254 c254_7 (rw_iload_n (pc' := 8) (z := a1) rfl rfl ?_)
  refine wp_of e254 c254_8 (xc_V (pc' := 11) (r := r0) (as := [vI a1]) (st := [.ref r0]) (lm_9_373) rfl rfl (Nat.le_of_ble_eq_true rfl) w140833 g0 sh_42 (by decide) rfl (by decide) (s_218 w140833 g0 ⟨by omega, by omega⟩) (fun R140836 T140837 H140838 p140839 => ?_))
  obtain ⟨e140840, e140842, z140844, e140841, b140845, p140843⟩ := p140839
  subst e140840
  subst e140841
  subst e140842
  show wp _ _ 254 11 [(0, .ref r0), (1, vI a1), (2, vI a2)] [vI z140844, .ref r0] _ H140831 _
  have k140846 : wKI H140831 r0 = wKI H r0 := (wKI_fr hW g0 ((wfr.rf (l := [(42, 0)])).put' e140832 g0 rfl) rfl)
  refine wp_of e254 c254_11 (xc_V (pc' := 14) (r := r0) (as := [vI z140844]) (st := []) (lm_9_447) rfl rfl (Nat.le_of_ble_eq_true rfl) w140833 g0 sh_42 (by decide) rfl (by decide) (s_253 w140833 g0 ⟨by omega, by omega⟩ (by omega) (by omega)) (fun R140847 T140848 H140849 p140850 => ?_))
  obtain ⟨e140851, w140853, f140854, z140859, e140852, b140860, p140855, p140856, p140857, p140858⟩ := p140850
  subst e140851
  subst e140852
  have f140861 := f140834.tr f140854 rfl
  show wp _ _ 254 14 [(0, .ref r0), (1, vI a1), (2, vI a2)] [vI z140859] _ H140849 _
  refine wp_of e254 c254_14 (rw_istore_n (pc' := 15) (z := z140859) (L' := [(3, vI z140859), (0, .ref r0), (1, vI a1), (2, vI a2)]) rfl rfl rfl ?_)
  refine wp_of e254 c254_15 (rw_iload_n (pc' := 16) (z := z140859) rfl rfl ?_)
  refine wp_of e254 c254_16 (rw_if_le (p1 := 25) (p2 := 19) (by decide) rfl ⟨by omega, by omega⟩ (fun c140862 => ?_) (fun c140862 => ?_))
  · refine wp_of e254 c254_25 (rw_iconst (pc' := 26) rfl ?_)
    refine wp_of e254 c254_26 (rw_istore (pc' := 28) (z := 0) (L' := [(4, vI 0), (3, vI z140859), (0, .ref r0), (1, vI a1), (2, vI a2)]) rfl rfl rfl ?_)
    refine wp_of e254 c254_28 (rw_iconst (pc' := 29) rfl ?_)
    refine wp_of e254 c254_29 (rw_istore (pc' := 31) (z := 0) (L' := [(5, vI 0), (4, vI 0), (3, vI z140859), (0, .ref r0), (1, vI a1), (2, vI a2)]) rfl rfl rfl ?_)
    have lp141129 : ∀ (n141130 : Nat) (v141132 : Int) (v141133 : Int) (H141134 : wq_H), WT T H141134 → wfr [(51, 999)] T H140849 H141134 → (0 ≤ v141132 ∧ v141132 ≤ 6) → (0 ≤ v141133 ∧ v141133 ≤ 16777215) → (6 - v141132).toNat = n141130 → wp kt 8 254 31 [(5, vI v141132), (4, vI v141133), (0, .ref r0), (1, vI a1), (2, vI a2)] [] T H141134 (q_254 r0 a1 a2 T H) := by
      intro n141130
      induction n141130 using Nat.strongRecOn with
      | _ n141130 ih141131 =>
        intro v141132 v141133 H141134 w141135 f141136 b141137 b141138 m141139
        have f141140 := f140861.tr f141136 rfl
        refine wp_of e254 c254_31 (rw_iload (pc' := 33) (z := v141132) rfl rfl ?_)
        refine wp_of e254 c254_33 (rw_aload_n (pc' := 34) (v := .ref r0) rfl rfl rfl ?_)
        have k141141 : H141134 r0 3 = H140831 r0 3 := ((f141136 r0 3 _ g0 rfl).trans (f140854 r0 3 _ g0 rfl))
        refine wp_of e254 c254_34 (xg_O (pc' := 37) lf_9_337 w141135 g0 sh_42 (by decide) (by decide) ty_42_3 rfl rfl (fun q141143 => ?_) (fun r141142 q141143 g141144 => ?_))
        · exfalso
          omega
        · refine wp_of e254 c254_37 (xg_I (pc' := 40) lf_9_188 w141135 g141144 sh_54 (by decide) (by decide) ty_54_3 rfl rfl (fun b141145 b141146 => ?_))
          refine wp_of e254 c254_40 (rw_icmp_ge (p1 := 84) (p2 := 43) (by decide) rfl ⟨by omega, by omega⟩ ⟨by omega, by omega⟩ (fun c141147 => ?_) (fun c141147 => ?_))
          · refine wp_of e254 c254_84 (rw_aload_n (pc' := 85) (v := .ref r0) rfl rfl rfl ?_)
            refine wp_of e254 c254_85 (rw_iload (pc' := 87) (z := v141133) rfl rfl ?_)
            refine wp_of e254 c254_87 (xc_V (pc' := 90) (r := r0) (as := [vI v141133]) (st := []) (lm_9_58) rfl rfl (Nat.le_of_ble_eq_true rfl) w141135 g0 sh_42 (by decide) rfl (by decide) (s_209 w141135 g0 ⟨by omega, by omega⟩) (fun R141148 T141149 H141150 p141151 => ?_))
            obtain ⟨e141152, w141154, f141155, z141156, e141153, b141157⟩ := p141151
            subst e141152
            subst e141153
            have f141158 := f141140.tr f141155 rfl
            show wp _ _ 254 90 [(5, vI v141132), (4, vI v141133), (0, .ref r0), (1, vI a1), (2, vI a2)] [vI z141156] _ H141150 _
            have k141159 : wKI H141150 r0 = wKI H140849 r0 := ((wKI_fr w141135 g0 f141155 rfl).trans (wKI_fr w140853 g0 f141136 rfl))
            exact wp_ireturn e254 c254_90 rfl ⟨rfl, w141154, f141158, z141156, rfl, ⟨by omega, by omega⟩, by omega⟩
          · refine wp_of e254 c254_43 (rw_iload (pc' := 45) (z := v141133) rfl rfl ?_)
            refine wp_of e254 c254_45 (rw_aload_n (pc' := 46) (v := .ref r0) rfl rfl rfl ?_)
            refine wp_of e254 c254_46 (rw_iload (pc' := 48) (z := v141132) rfl rfl ?_)
            refine wp_of e254 c254_48 (rw_iload_n (pc' := 49) (z := a1) rfl rfl ?_)
            have k141160 : H141134 r0 29 = H140849 r0 29 := (f141136 r0 29 _ g0 rfl)
            have k141161 : wLM H141134 r0 = wLM H140849 r0 := (wLM_fr w140853 g0 f141136 rfl)
            refine wp_of e254 c254_49 (xc_V (pc' := 52) (r := r0) (as := [vI v141132, vI a1]) (st := [vI v141133]) (lm_9_444) rfl rfl (Nat.le_of_ble_eq_true rfl) w141135 g0 sh_42 (by decide) rfl (by decide) (s_251 w141135 g0 ⟨by omega, by omega⟩ ⟨by omega, by omega⟩ q141143 g141144 (by omega)) (fun R141162 T141163 H141164 p141165 => ?_))
            obtain ⟨e141166, w141168, f141169, z141170, e141167, b141171⟩ := p141165
            subst e141166
            subst e141167
            have f141172 := f141140.tr f141169 rfl
            have f141173 := f141136.tr f141169 rfl
            show wp _ _ 254 52 [(5, vI v141132), (4, vI v141133), (0, .ref r0), (1, vI a1), (2, vI a2)] [vI z141170, vI v141133] _ H141164 _
            refine wp_of e254 c254_52 (rw_iload_n (pc' := 53) (z := a2) rfl rfl ?_)
            refine wp_of e254 c254_53 (rw_if_eq (p1 := 63) (p2 := 56) (by decide) rfl ⟨by omega, by omega⟩ (fun c141174 => ?_) (fun c141174 => ?_))
            · refine wp_of e254 c254_63 (rw_iconst (pc' := 64) rfl ?_)
              refine wp_of e254 c254_64 (rw_icmp_ne (p1 := 74) (p2 := 67) (by decide) rfl ⟨by omega, by omega⟩ ⟨by omega, by omega⟩ (fun c141175 => ?_) (fun c141175 => ?_))
              · refine wp_of e254 c254_74 (rw_iconst (pc' := 75) rfl ?_)
                refine wp_of e254 c254_75 (rw_ior (pc' := 76) rfl ?_)
                obtain ⟨v141176, e141177⟩ : ∃ x : Int, x = wq_or v141133 0 := ⟨_, rfl⟩
                rw [← e141177]
                have b141178 : 0 ≤ v141176 ∧ v141176 ≤ 16777215 := by
                  rw [e141177]
                  exact wq_or_24 ⟨by omega, by omega⟩ ⟨by omega, by omega⟩
                refine wp_of e254 c254_76 (rw_istore (pc' := 78) (z := v141176) (L' := [(4, vI v141176), (5, vI v141132), (0, .ref r0), (1, vI a1), (2, vI a2)]) rfl rfl rfl ?_)
                refine wp_of e254 c254_78 (rw_iinc (pc' := 81) (z := v141132) (L' := [(5, vI (v141132 + 1)), (4, vI v141176), (0, .ref r0), (1, vI a1), (2, vI a2)]) rfl rfl rfl rfl ?_)
                refine wp_of e254 c254_81 (rw_goto (p1 := 31) (by decide) ?_)
                exact wp_lc (ks := [5, 4, 0, 1, 2]) (wl_c rfl (wl_c rfl (wl_c rfl (wl_c rfl (wl_c rfl wl_n))))) rfl (by decide) (ih141131 _ (by omega) (v141132 + 1) v141176 H141164 w141168 f141173 ⟨by omega, by omega⟩ ⟨by omega, by omega⟩ rfl)
              · refine wp_of e254 c254_67 (rw_iconst (pc' := 68) rfl ?_)
                refine wp_of e254 c254_68 (rw_iload (pc' := 70) (z := v141132) rfl rfl ?_)
                refine wp_of e254 c254_70 (rw_ishl (pc' := 71) rfl ?_)
                obtain ⟨v141179, e141180⟩ : ∃ x : Int, x = wq_shl 1 v141132 := ⟨_, rfl⟩
                rw [← e141180]
                have b141181 : 1 ≤ v141179 ∧ v141179 ≤ 64 := by
                  rw [e141180]
                  exact wq_shl1_6 ⟨by omega, by omega⟩
                refine wp_of e254 c254_71 (rw_goto (p1 := 75) (by decide) ?_)
                refine wp_of e254 c254_75 (rw_ior (pc' := 76) rfl ?_)
                obtain ⟨v141182, e141183⟩ : ∃ x : Int, x = wq_or v141133 v141179 := ⟨_, rfl⟩
                rw [← e141183]
                have b141184 : 0 ≤ v141182 ∧ v141182 ≤ 16777215 := by
                  rw [e141183]
                  exact wq_or_24 ⟨by omega, by omega⟩ ⟨by omega, by omega⟩
                refine wp_of e254 c254_76 (rw_istore (pc' := 78) (z := v141182) (L' := [(4, vI v141182), (5, vI v141132), (0, .ref r0), (1, vI a1), (2, vI a2)]) rfl rfl rfl ?_)
                refine wp_of e254 c254_78 (rw_iinc (pc' := 81) (z := v141132) (L' := [(5, vI (v141132 + 1)), (4, vI v141182), (0, .ref r0), (1, vI a1), (2, vI a2)]) rfl rfl rfl rfl ?_)
                refine wp_of e254 c254_81 (rw_goto (p1 := 31) (by decide) ?_)
                exact wp_lc (ks := [5, 4, 0, 1, 2]) (wl_c rfl (wl_c rfl (wl_c rfl (wl_c rfl (wl_c rfl wl_n))))) rfl (by decide) (ih141131 _ (by omega) (v141132 + 1) v141182 H141164 w141168 f141173 ⟨by omega, by omega⟩ ⟨by omega, by omega⟩ rfl)
            · refine wp_of e254 c254_56 (rw_aload_n (pc' := 57) (v := .ref r0) rfl rfl rfl ?_)
              have k141185 : H141164 r0 29 = H141134 r0 29 := (f141169 r0 29 _ g0 rfl)
              refine wp_of e254 c254_57 (xg_I (pc' := 60) lf_9_422 w141168 g0 sh_42 (by decide) (by decide) ty_42_29 rfl rfl (fun b141186 b141187 => ?_))
              refine wp_of e254 c254_60 (rw_goto (p1 := 64) (by decide) ?_)
              refine wp_of e254 c254_64 (rw_icmp_ne (p1 := 74) (p2 := 67) (by decide) rfl ⟨by omega, by omega⟩ ⟨by omega, by omega⟩ (fun c141188 => ?_) (fun c141188 => ?_))
              · refine wp_of e254 c254_74 (rw_iconst (pc' := 75) rfl ?_)
                refine wp_of e254 c254_75 (rw_ior (pc' := 76) rfl ?_)
                obtain ⟨v141189, e141190⟩ : ∃ x : Int, x = wq_or v141133 0 := ⟨_, rfl⟩
                rw [← e141190]
                have b141191 : 0 ≤ v141189 ∧ v141189 ≤ 16777215 := by
                  rw [e141190]
                  exact wq_or_24 ⟨by omega, by omega⟩ ⟨by omega, by omega⟩
                refine wp_of e254 c254_76 (rw_istore (pc' := 78) (z := v141189) (L' := [(4, vI v141189), (5, vI v141132), (0, .ref r0), (1, vI a1), (2, vI a2)]) rfl rfl rfl ?_)
                refine wp_of e254 c254_78 (rw_iinc (pc' := 81) (z := v141132) (L' := [(5, vI (v141132 + 1)), (4, vI v141189), (0, .ref r0), (1, vI a1), (2, vI a2)]) rfl rfl rfl rfl ?_)
                refine wp_of e254 c254_81 (rw_goto (p1 := 31) (by decide) ?_)
                exact wp_lc (ks := [5, 4, 0, 1, 2]) (wl_c rfl (wl_c rfl (wl_c rfl (wl_c rfl (wl_c rfl wl_n))))) rfl (by decide) (ih141131 _ (by omega) (v141132 + 1) v141189 H141164 w141168 f141173 ⟨by omega, by omega⟩ ⟨by omega, by omega⟩ rfl)
              · refine wp_of e254 c254_67 (rw_iconst (pc' := 68) rfl ?_)
                refine wp_of e254 c254_68 (rw_iload (pc' := 70) (z := v141132) rfl rfl ?_)
                refine wp_of e254 c254_70 (rw_ishl (pc' := 71) rfl ?_)
                obtain ⟨v141192, e141193⟩ : ∃ x : Int, x = wq_shl 1 v141132 := ⟨_, rfl⟩
                rw [← e141193]
                have b141194 : 1 ≤ v141192 ∧ v141192 ≤ 64 := by
                  rw [e141193]
                  exact wq_shl1_6 ⟨by omega, by omega⟩
                refine wp_of e254 c254_71 (rw_goto (p1 := 75) (by decide) ?_)
                refine wp_of e254 c254_75 (rw_ior (pc' := 76) rfl ?_)
                obtain ⟨v141195, e141196⟩ : ∃ x : Int, x = wq_or v141133 v141192 := ⟨_, rfl⟩
                rw [← e141196]
                have b141197 : 0 ≤ v141195 ∧ v141195 ≤ 16777215 := by
                  rw [e141196]
                  exact wq_or_24 ⟨by omega, by omega⟩ ⟨by omega, by omega⟩
                refine wp_of e254 c254_76 (rw_istore (pc' := 78) (z := v141195) (L' := [(4, vI v141195), (5, vI v141132), (0, .ref r0), (1, vI a1), (2, vI a2)]) rfl rfl rfl ?_)
                refine wp_of e254 c254_78 (rw_iinc (pc' := 81) (z := v141132) (L' := [(5, vI (v141132 + 1)), (4, vI v141195), (0, .ref r0), (1, vI a1), (2, vI a2)]) rfl rfl rfl rfl ?_)
                refine wp_of e254 c254_81 (rw_goto (p1 := 31) (by decide) ?_)
                exact wp_lc (ks := [5, 4, 0, 1, 2]) (wl_c rfl (wl_c rfl (wl_c rfl (wl_c rfl (wl_c rfl wl_n))))) rfl (by decide) (ih141131 _ (by omega) (v141132 + 1) v141195 H141164 w141168 f141173 ⟨by omega, by omega⟩ ⟨by omega, by omega⟩ rfl)
    exact wp_lc (ks := [5, 4, 3, 0, 1, 2]) (wl_c rfl (wl_c rfl (wl_c rfl (wl_c rfl (wl_c rfl wl_n))))) rfl (by decide) (lp141129 _ 0 0 H140849 w140853 wfr.rf ⟨by omega, by omega⟩ ⟨by omega, by omega⟩ rfl)
  · refine wp_of e254 c254_19 (rw_aload_n (pc' := 20) (v := .ref r0) rfl rfl rfl ?_)
    refine wp_of e254 c254_20 (rw_iload_n (pc' := 21) (z := z140859) rfl rfl ?_)
    refine wp_of e254 c254_21 (xc_V (pc' := 24) (r := r0) (as := [vI z140859]) (st := []) (lm_9_54) rfl rfl (Nat.le_of_ble_eq_true rfl) w140853 g0 sh_42 (by decide) rfl (by decide) (s_170 w140853 g0 ⟨by omega, by omega⟩) (fun R141198 T141199 H141200 p141201 => ?_))
    obtain ⟨e141202, w141204, f141205, z141206, e141203, b141207⟩ := p141201
    subst e141202
    subst e141203
    have f141208 := f140861.tr f141205 rfl
    show wp _ _ 254 24 [(3, vI z140859), (0, .ref r0), (1, vI a1), (2, vI a2)] [vI z141206] _ H141200 _
    have k141209 : wKI H141200 r0 = wKI H140849 r0 := (wKI_fr w140853 g0 f141205 rfl)
    exact wp_ireturn e254 c254_24 rfl ⟨rfl, w141204, f141208, z141206, rfl, ⟨by omega, by omega⟩, by omega⟩
/-! StrikeAwakeModel.chance(II)I -/
theorem e255 : wq_en 255 = some (9, 4, false, some FieldType.int) := rfl
theorem cg255_0 : mc_cd 255 0 = some (.aload_n 0, 1) ∧ mc_cd 255 1 = some (.iconst 0, 1) ∧ mc_cd 255 2 = some (.putfield 48, 3) ∧ mc_cd 255 5 = some (.aload_n 0, 1) ∧ mc_cd 255 6 = some (.aload_n 0, 1) ∧ mc_cd 255 7 = some (.iload_n 1, 1) ∧ mc_cd 255 8 = some (.invokevirtual 364, 3) ∧ mc_cd 255 11 = some (.ifCond .eq 15, 3) := by decide +kernel
theorem c255_0 : mc_cd 255 0 = some (.aload_n 0, 1) := cg255_0.1
theorem c255_1 : mc_cd 255 1 = some (.iconst 0, 1) := cg255_0.2.1
theorem c255_2 : mc_cd 255 2 = some (.putfield 48, 3) := cg255_0.2.2.1
theorem c255_5 : mc_cd 255 5 = some (.aload_n 0, 1) := cg255_0.2.2.2.1
theorem c255_6 : mc_cd 255 6 = some (.aload_n 0, 1) := cg255_0.2.2.2.2.1
theorem c255_7 : mc_cd 255 7 = some (.iload_n 1, 1) := cg255_0.2.2.2.2.2.1
theorem c255_8 : mc_cd 255 8 = some (.invokevirtual 364, 3) := cg255_0.2.2.2.2.2.2.1
theorem c255_11 : mc_cd 255 11 = some (.ifCond .eq 15, 3) := cg255_0.2.2.2.2.2.2.2
theorem cg255_14 : mc_cd 255 14 = some (.aload_n 0, 1) ∧ mc_cd 255 15 = some (.iload_n 2, 1) ∧ mc_cd 255 16 = some (.invokevirtual 373, 3) ∧ mc_cd 255 19 = some (.ifCond .eq 7, 3) ∧ mc_cd 255 22 = some (.iconst 1, 1) ∧ mc_cd 255 23 = some (.goto 4, 3) ∧ mc_cd 255 26 = some (.iconst 0, 1) ∧ mc_cd 255 27 = some (.invokevirtual 447, 3) := by decide +kernel
theorem c255_14 : mc_cd 255 14 = some (.aload_n 0, 1) := cg255_14.1
theorem c255_15 : mc_cd 255 15 = some (.iload_n 2, 1) := cg255_14.2.1
theorem c255_16 : mc_cd 255 16 = some (.invokevirtual 373, 3) := cg255_14.2.2.1
theorem c255_19 : mc_cd 255 19 = some (.ifCond .eq 7, 3) := cg255_14.2.2.2.1
theorem c255_22 : mc_cd 255 22 = some (.iconst 1, 1) := cg255_14.2.2.2.2.1
theorem c255_23 : mc_cd 255 23 = some (.goto 4, 3) := cg255_14.2.2.2.2.2.1
theorem c255_26 : mc_cd 255 26 = some (.iconst 0, 1) := cg255_14.2.2.2.2.2.2.1
theorem c255_27 : mc_cd 255 27 = some (.invokevirtual 447, 3) := cg255_14.2.2.2.2.2.2.2
theorem cg255_30 : mc_cd 255 30 = some (.istore_n 3, 1) ∧ mc_cd 255 31 = some (.iload_n 3, 1) ∧ mc_cd 255 32 = some (.ifCond .le 11, 3) ∧ mc_cd 255 35 = some (.aload_n 0, 1) ∧ mc_cd 255 36 = some (.iload_n 3, 1) ∧ mc_cd 255 37 = some (.invokevirtual 54, 3) ∧ mc_cd 255 40 = some (.goto 25, 3) ∧ mc_cd 255 43 = some (.aload_n 0, 1) := by decide +kernel
theorem c255_30 : mc_cd 255 30 = some (.istore_n 3, 1) := cg255_30.1
theorem c255_31 : mc_cd 255 31 = some (.iload_n 3, 1) := cg255_30.2.1
theorem c255_32 : mc_cd 255 32 = some (.ifCond .le 11, 3) := cg255_30.2.2.1
theorem c255_35 : mc_cd 255 35 = some (.aload_n 0, 1) := cg255_30.2.2.2.1
theorem c255_36 : mc_cd 255 36 = some (.iload_n 3, 1) := cg255_30.2.2.2.2.1
theorem c255_37 : mc_cd 255 37 = some (.invokevirtual 54, 3) := cg255_30.2.2.2.2.2.1
theorem c255_40 : mc_cd 255 40 = some (.goto 25, 3) := cg255_30.2.2.2.2.2.2.1
theorem c255_43 : mc_cd 255 43 = some (.aload_n 0, 1) := cg255_30.2.2.2.2.2.2.2
theorem cg255_44 : mc_cd 255 44 = some (.ldc2_w 450, 3) ∧ mc_cd 255 47 = some (.aload_n 0, 1) ∧ mc_cd 255 48 = some (.iload_n 1, 1) ∧ mc_cd 255 49 = some (.iload_n 2, 1) ∧ mc_cd 255 50 = some (.invokevirtual 440, 3) ∧ mc_cd 255 53 = some (.lmul, 1) ∧ mc_cd 255 54 = some (.aload_n 0, 1) ∧ mc_cd 255 55 = some (.iconst (-1), 1) := by decide +kernel
theorem c255_44 : mc_cd 255 44 = some (.ldc2_w 450, 3) := cg255_44.1
theorem c255_47 : mc_cd 255 47 = some (.aload_n 0, 1) := cg255_44.2.1
theorem c255_48 : mc_cd 255 48 = some (.iload_n 1, 1) := cg255_44.2.2.1
theorem c255_49 : mc_cd 255 49 = some (.iload_n 2, 1) := cg255_44.2.2.2.1
theorem c255_50 : mc_cd 255 50 = some (.invokevirtual 440, 3) := cg255_44.2.2.2.2.1
theorem c255_53 : mc_cd 255 53 = some (.lmul, 1) := cg255_44.2.2.2.2.2.1
theorem c255_54 : mc_cd 255 54 = some (.aload_n 0, 1) := cg255_44.2.2.2.2.2.2.1
theorem c255_55 : mc_cd 255 55 = some (.iconst (-1), 1) := cg255_44.2.2.2.2.2.2.2
theorem cg255_56 : mc_cd 255 56 = some (.iconst 0, 1) ∧ mc_cd 255 57 = some (.invokevirtual 440, 3) ∧ mc_cd 255 60 = some (.ldiv, 1) ∧ mc_cd 255 61 = some (.l2i, 1) ∧ mc_cd 255 62 = some (.invokevirtual 58, 3) ∧ mc_cd 255 65 = some (.ireturn, 1) := by decide +kernel
theorem c255_56 : mc_cd 255 56 = some (.iconst 0, 1) := cg255_56.1
theorem c255_57 : mc_cd 255 57 = some (.invokevirtual 440, 3) := cg255_56.2.1
theorem c255_60 : mc_cd 255 60 = some (.ldiv, 1) := cg255_56.2.2.1
theorem c255_61 : mc_cd 255 61 = some (.l2i, 1) := cg255_56.2.2.2.1
theorem c255_62 : mc_cd 255 62 = some (.invokevirtual 58, 3) := cg255_56.2.2.2.2.1
theorem c255_65 : mc_cd 255 65 = some (.ireturn, 1) := cg255_56.2.2.2.2.2
abbrev q_255 (r0 : Nat) (a1 : Int) (a2 : Int) (T : wq_T) (H : wq_H) : Option Value → wq_T → wq_H → Prop := fun r T' H' => T = T' ∧ WT T H' ∧ wfr [(42, 0), (42, 1), (42, 2), (42, 28), (42, 29), (51, 999), (52, 999)] T H H' ∧ ∃ z : Int, some (vI z) = r ∧ ((-2147483648) ≤ z ∧ z ≤ 2147483647) ∧ (wKI H' r0 = 1)
set_option maxHeartbeats 4000000 in
theorem s_255 {kt : Nat → Option mc_E} {T : wq_T} {H : wq_H} {r0 : Nat} {a1 : Int} {a2 : Int} (hW : WT T H) (g0 : T.2.2.2 r0 = some 42) (i1 : (-2147483648) ≤ a1 ∧ a1 ≤ 2147483647) (i2 : (-2147483648) ≤ a2 ∧ a2 ≤ 2147483647) (p0 : wKI H r0 = 1) : wpc kt 9 255 [.ref r0, vI a1, vI a2] T H (q_255 r0 a1 a2 T H) := by
  refine wp_enter e255 (Nat.le_of_ble_eq_true rfl) rfl ?_
  have f0 : wfr [(42, 0), (42, 1), (42, 2), (42, 28), (42, 29), (51, 999), (52, 999)] T H H := wfr.rf
  show wp _ _ 255 0 [(0, .ref r0), (1, vI a1), (2, vI a2)] [] _ H _
  refine wp_of e255 c255_0 (rw_aload_n (pc' := 1) (v := .ref r0) rfl rfl rfl ?_)
  refine wp_of e255 c255_1 (rw_iconst (pc' := 2) rfl ?_)
  refine wp_of e255 c255_2 (xp_I (pc' := 5) lf_9_48 hW g0 sh_42 (by decide) (by decide) ty_42_0 rfl rfl (by omega) (by omega) ⟨by omega, by omega⟩ rfl (fun H141372 e141373 w141374 => ?_))
  have f141375 := f0.put' e141373 g0 rfl
  have k141376 : H141372 r0 0 = 0 := wq_u_s e141373
  refine wp_of e255 c255_5 (rw_aload_n (pc' := 6) (v := .ref r0) rfl rfl rfl ?_)
  refine wp_of e255 c255_6 (rw_aload_n (pc' := 7) (v := .ref r0) rfl rfl rfl ?_)
  refine wp_of e255 c255_7 (rw_iload_n (pc' := 8) (z := a1) rfl rfl ?_)
  refine wp_of e255 c255_8 (xc_V (pc' := 11) (r := r0) (as := [vI a1]) (st := [.ref r0]) (lm_9_364) rfl rfl (Nat.le_of_ble_eq_true rfl) w141374 g0 sh_42 (by decide) rfl (by decide) (s_213 w141374 g0 ⟨by omega, by omega⟩) (fun R141377 T141378 H141379 p141380 => ?_))
  obtain ⟨e141381, e141383, z141385, e141382, b141386, p141384⟩ := p141380
  subst e141381
  subst e141382
  subst e141383
  show wp _ _ 255 11 [(0, .ref r0), (1, vI a1), (2, vI a2)] [vI z141385, .ref r0] _ H141372 _
  refine wp_of e255 c255_11 (rw_if_eq (p1 := 26) (p2 := 14) (by decide) rfl ⟨by omega, by omega⟩ (fun c141387 => ?_) (fun c141387 => ?_))
  · refine wp_of e255 c255_26 (rw_iconst (pc' := 27) rfl ?_)
    have k141388 : wKI H141372 r0 = wKI H r0 := (wKI_fr hW g0 ((wfr.rf (l := [(42, 0)])).put' e141373 g0 rfl) rfl)
    refine wp_of e255 c255_27 (xc_V (pc' := 30) (r := r0) (as := [vI 0]) (st := []) (lm_9_447) rfl rfl (Nat.le_of_ble_eq_true rfl) w141374 g0 sh_42 (by decide) rfl (by decide) (s_253 w141374 g0 ⟨by omega, by omega⟩ (by omega) (by omega)) (fun R141389 T141390 H141391 p141392 => ?_))
    obtain ⟨e141393, w141395, f141396, z141401, e141394, b141402, p141397, p141398, p141399, p141400⟩ := p141392
    subst e141393
    subst e141394
    have f141403 := f141375.tr f141396 rfl
    show wp _ _ 255 30 [(0, .ref r0), (1, vI a1), (2, vI a2)] [vI z141401] _ H141391 _
    refine wp_of e255 c255_30 (rw_istore_n (pc' := 31) (z := z141401) (L' := [(3, vI z141401), (0, .ref r0), (1, vI a1), (2, vI a2)]) rfl rfl rfl ?_)
    refine wp_of e255 c255_31 (rw_iload_n (pc' := 32) (z := z141401) rfl rfl ?_)
    refine wp_of e255 c255_32 (rw_if_le (p1 := 43) (p2 := 35) (by decide) rfl ⟨by omega, by omega⟩ (fun c141404 => ?_) (fun c141404 => ?_))
    · exfalso
      omega
    · refine wp_of e255 c255_35 (rw_aload_n (pc' := 36) (v := .ref r0) rfl rfl rfl ?_)
      refine wp_of e255 c255_36 (rw_iload_n (pc' := 37) (z := z141401) rfl rfl ?_)
      refine wp_of e255 c255_37 (xc_V (pc' := 40) (r := r0) (as := [vI z141401]) (st := []) (lm_9_54) rfl rfl (Nat.le_of_ble_eq_true rfl) w141395 g0 sh_42 (by decide) rfl (by decide) (s_170 w141395 g0 ⟨by omega, by omega⟩) (fun R141405 T141406 H141407 p141408 => ?_))
      obtain ⟨e141409, w141411, f141412, z141413, e141410, b141414⟩ := p141408
      subst e141409
      subst e141410
      have f141415 := f141403.tr f141412 rfl
      show wp _ _ 255 40 [(3, vI z141401), (0, .ref r0), (1, vI a1), (2, vI a2)] [vI z141413] _ H141407 _
      refine wp_of e255 c255_40 (rw_goto (p1 := 65) (by decide) ?_)
      have k141416 : wKI H141407 r0 = wKI H141391 r0 := (wKI_fr w141395 g0 f141412 rfl)
      exact wp_ireturn e255 c255_65 rfl ⟨rfl, w141411, f141415, z141413, rfl, ⟨by omega, by omega⟩, by omega⟩
  · refine wp_of e255 c255_14 (rw_aload_n (pc' := 15) (v := .ref r0) rfl rfl rfl ?_)
    refine wp_of e255 c255_15 (rw_iload_n (pc' := 16) (z := a2) rfl rfl ?_)
    refine wp_of e255 c255_16 (xc_V (pc' := 19) (r := r0) (as := [vI a2]) (st := [.ref r0]) (lm_9_373) rfl rfl (Nat.le_of_ble_eq_true rfl) w141374 g0 sh_42 (by decide) rfl (by decide) (s_218 w141374 g0 ⟨by omega, by omega⟩) (fun R141417 T141418 H141419 p141420 => ?_))
    obtain ⟨e141421, e141423, z141425, e141422, b141426, p141424⟩ := p141420
    subst e141421
    subst e141422
    subst e141423
    show wp _ _ 255 19 [(0, .ref r0), (1, vI a1), (2, vI a2)] [vI z141425, .ref r0] _ H141372 _
    refine wp_of e255 c255_19 (rw_if_eq (p1 := 26) (p2 := 22) (by decide) rfl ⟨by omega, by omega⟩ (fun c141427 => ?_) (fun c141427 => ?_))
    · refine wp_of e255 c255_26 (rw_iconst (pc' := 27) rfl ?_)
      have k141428 : wKI H141372 r0 = wKI H r0 := (wKI_fr hW g0 ((wfr.rf (l := [(42, 0)])).put' e141373 g0 rfl) rfl)
      refine wp_of e255 c255_27 (xc_V (pc' := 30) (r := r0) (as := [vI 0]) (st := []) (lm_9_447) rfl rfl (Nat.le_of_ble_eq_true rfl) w141374 g0 sh_42 (by decide) rfl (by decide) (s_253 w141374 g0 ⟨by omega, by omega⟩ (by omega) (by omega)) (fun R141429 T141430 H141431 p141432 => ?_))
      obtain ⟨e141433, w141435, f141436, z141441, e141434, b141442, p141437, p141438, p141439, p141440⟩ := p141432
      subst e141433
      subst e141434
      have f141443 := f141375.tr f141436 rfl
      show wp _ _ 255 30 [(0, .ref r0), (1, vI a1), (2, vI a2)] [vI z141441] _ H141431 _
      refine wp_of e255 c255_30 (rw_istore_n (pc' := 31) (z := z141441) (L' := [(3, vI z141441), (0, .ref r0), (1, vI a1), (2, vI a2)]) rfl rfl rfl ?_)
      refine wp_of e255 c255_31 (rw_iload_n (pc' := 32) (z := z141441) rfl rfl ?_)
      refine wp_of e255 c255_32 (rw_if_le (p1 := 43) (p2 := 35) (by decide) rfl ⟨by omega, by omega⟩ (fun c141444 => ?_) (fun c141444 => ?_))
      · exfalso
        omega
      · refine wp_of e255 c255_35 (rw_aload_n (pc' := 36) (v := .ref r0) rfl rfl rfl ?_)
        refine wp_of e255 c255_36 (rw_iload_n (pc' := 37) (z := z141441) rfl rfl ?_)
        refine wp_of e255 c255_37 (xc_V (pc' := 40) (r := r0) (as := [vI z141441]) (st := []) (lm_9_54) rfl rfl (Nat.le_of_ble_eq_true rfl) w141435 g0 sh_42 (by decide) rfl (by decide) (s_170 w141435 g0 ⟨by omega, by omega⟩) (fun R141445 T141446 H141447 p141448 => ?_))
        obtain ⟨e141449, w141451, f141452, z141453, e141450, b141454⟩ := p141448
        subst e141449
        subst e141450
        have f141455 := f141443.tr f141452 rfl
        show wp _ _ 255 40 [(3, vI z141441), (0, .ref r0), (1, vI a1), (2, vI a2)] [vI z141453] _ H141447 _
        refine wp_of e255 c255_40 (rw_goto (p1 := 65) (by decide) ?_)
        have k141456 : wKI H141447 r0 = wKI H141431 r0 := (wKI_fr w141435 g0 f141452 rfl)
        exact wp_ireturn e255 c255_65 rfl ⟨rfl, w141451, f141455, z141453, rfl, ⟨by omega, by omega⟩, by omega⟩
    · refine wp_of e255 c255_22 (rw_iconst (pc' := 23) rfl ?_)
      refine wp_of e255 c255_23 (rw_goto (p1 := 27) (by decide) ?_)
      have k141457 : wKI H141372 r0 = wKI H r0 := (wKI_fr hW g0 ((wfr.rf (l := [(42, 0)])).put' e141373 g0 rfl) rfl)
      refine wp_of e255 c255_27 (xc_V (pc' := 30) (r := r0) (as := [vI 1]) (st := []) (lm_9_447) rfl rfl (Nat.le_of_ble_eq_true rfl) w141374 g0 sh_42 (by decide) rfl (by decide) (s_253 w141374 g0 ⟨by omega, by omega⟩ (by omega) (by omega)) (fun R141458 T141459 H141460 p141461 => ?_))
      obtain ⟨e141462, w141464, f141465, z141470, e141463, b141471, p141466, p141467, p141468, p141469⟩ := p141461
      subst e141462
      subst e141463
      have f141472 := f141375.tr f141465 rfl
      show wp _ _ 255 30 [(0, .ref r0), (1, vI a1), (2, vI a2)] [vI z141470] _ H141460 _
      refine wp_of e255 c255_30 (rw_istore_n (pc' := 31) (z := z141470) (L' := [(3, vI z141470), (0, .ref r0), (1, vI a1), (2, vI a2)]) rfl rfl rfl ?_)
      refine wp_of e255 c255_31 (rw_iload_n (pc' := 32) (z := z141470) rfl rfl ?_)
      refine wp_of e255 c255_32 (rw_if_le (p1 := 43) (p2 := 35) (by decide) rfl ⟨by omega, by omega⟩ (fun c141473 => ?_) (fun c141473 => ?_))
      · refine wp_of e255 c255_43 (rw_aload_n (pc' := 44) (v := .ref r0) rfl rfl rfl ?_)
        refine wp_of e255 c255_44 (rw_ldc2 (pc' := 47) (z := 100) rfl rfl rfl ?_)
        refine wp_of e255 c255_47 (rw_aload_n (pc' := 48) (v := .ref r0) rfl rfl rfl ?_)
        refine wp_of e255 c255_48 (rw_iload_n (pc' := 49) (z := a1) rfl rfl ?_)
        refine wp_of e255 c255_49 (rw_iload_n (pc' := 50) (z := a2) rfl rfl ?_)
        have k141474 : H141460 r0 3 = H141372 r0 3 := (f141465 r0 3 _ g0 rfl)
        obtain ⟨r141475, q141476, g141477⟩ := (w141464.opt g0 (t' := 54) (n := 33) (j := 3) (p := 0) (q := 0) rfl (by decide) rfl).resolve_left (by omega)
        refine wp_of e255 c255_50 (xc_V (pc' := 53) (r := r0) (as := [vI a1, vI a2]) (st := [vL 100, .ref r0]) (lm_9_440) rfl rfl (Nat.le_of_ble_eq_true rfl) w141464 g0 sh_42 (by decide) rfl (by decide) (s_247 w141464 g0 ⟨by omega, by omega⟩ ⟨by omega, by omega⟩ q141476 g141477 (by omega)) (fun R141478 T141479 H141480 p141481 => ?_))
        obtain ⟨e141482, w141484, f141485, z141487, e141483, b141488, p141486⟩ := p141481
        subst e141482
        subst e141483
        have f141489 := f141472.tr f141485 rfl
        show wp _ _ 255 53 [(3, vI z141470), (0, .ref r0), (1, vI a1), (2, vI a2)] [vL z141487, vL 100, .ref r0] _ H141480 _
        refine wp_of e255 c255_53 (rw_lmul (pc' := 54) rfl ?_)
        refine wp_of e255 c255_54 (rw_aload_n (pc' := 55) (v := .ref r0) rfl rfl rfl ?_)
        refine wp_of e255 c255_55 (rw_iconst (pc' := 56) rfl ?_)
        refine wp_of e255 c255_56 (rw_iconst (pc' := 57) rfl ?_)
        have k141490 : H141480 r0 29 = H141460 r0 29 := (f141485 r0 29 _ g0 rfl)
        have k141491 : wLM H141480 r0 = wLM H141460 r0 := (wLM_fr w141464 g0 f141485 rfl)
        have k141492 : H141480 r0 3 = H141460 r0 3 := (f141485 r0 3 _ g0 rfl)
        have q141493 : H141480 r0 3 = (r141475 : Int) := k141492.trans q141476
        refine wp_of e255 c255_57 (xc_V (pc' := 60) (r := r0) (as := [vI (-1), vI 0]) (st := [vL (100 * z141487), .ref r0]) (lm_9_440) rfl rfl (Nat.le_of_ble_eq_true rfl) w141484 g0 sh_42 (by decide) rfl (by decide) (s_247 w141484 g0 ⟨by omega, by omega⟩ ⟨by omega, by omega⟩ q141493 g141477 (by omega)) (fun R141494 T141495 H141496 p141497 => ?_))
        obtain ⟨e141498, w141500, f141501, z141503, e141499, b141504, p141502⟩ := p141497
        subst e141498
        subst e141499
        have f141505 := f141489.tr f141501 rfl
        show wp _ _ 255 60 [(3, vI z141470), (0, .ref r0), (1, vI a1), (2, vI a2)] [vL z141503, vL (100 * z141487), .ref r0] _ H141496 _
        refine wp_of e255 c255_60 (rw_ldiv (pc' := 61) rfl ⟨by omega, by omega⟩ (by omega) ?_)
        obtain ⟨v141506, e141507⟩ : ∃ x : Int, x = wl_div (100 * z141487) z141503 := ⟨_, rfl⟩
        rw [← e141507]
        have b141508 : -9223372036854775808 ≤ v141506 ∧ v141506 ≤ 9223372036854775807 := by
          rw [e141507]
          exact wL_div _ _
        refine wp_of e255 c255_61 (rw_l2i (pc' := 62) rfl ?_)
        obtain ⟨v141509, e141510⟩ : ∃ x : Int, x = wq_w v141506 := ⟨_, rfl⟩
        rw [← e141510]
        have b141511 : -2147483648 ≤ v141509 ∧ v141509 ≤ 2147483647 := by
          rw [e141510]
          exact wI_w _
        have b141512 : (-2147483648 ≤ v141506 ∧ v141506 ≤ 2147483647) → v141509 = v141506 := by
          rw [e141510]
          exact fun h => wq_w_id h
        refine wp_of e255 c255_62 (xc_V (pc' := 65) (r := r0) (as := [vI v141509]) (st := []) (lm_9_58) rfl rfl (Nat.le_of_ble_eq_true rfl) w141500 g0 sh_42 (by decide) rfl (by decide) (s_209 w141500 g0 ⟨by omega, by omega⟩) (fun R141513 T141514 H141515 p141516 => ?_))
        obtain ⟨e141517, w141519, f141520, z141521, e141518, b141522⟩ := p141516
        subst e141517
        subst e141518
        have f141523 := f141505.tr f141520 rfl
        show wp _ _ 255 65 [(3, vI z141470), (0, .ref r0), (1, vI a1), (2, vI a2)] [vI z141521] _ H141515 _
        have k141524 : wKI H141515 r0 = wKI H141460 r0 := ((wKI_fr w141500 g0 f141520 rfl).trans ((wKI_fr w141484 g0 f141501 rfl).trans (wKI_fr w141464 g0 f141485 rfl)))
        exact wp_ireturn e255 c255_65 rfl ⟨rfl, w141519, f141523, z141521, rfl, ⟨by omega, by omega⟩, by omega⟩
      · refine wp_of e255 c255_35 (rw_aload_n (pc' := 36) (v := .ref r0) rfl rfl rfl ?_)
        refine wp_of e255 c255_36 (rw_iload_n (pc' := 37) (z := z141470) rfl rfl ?_)
        refine wp_of e255 c255_37 (xc_V (pc' := 40) (r := r0) (as := [vI z141470]) (st := []) (lm_9_54) rfl rfl (Nat.le_of_ble_eq_true rfl) w141464 g0 sh_42 (by decide) rfl (by decide) (s_170 w141464 g0 ⟨by omega, by omega⟩) (fun R141525 T141526 H141527 p141528 => ?_))
        obtain ⟨e141529, w141531, f141532, z141533, e141530, b141534⟩ := p141528
        subst e141529
        subst e141530
        have f141535 := f141472.tr f141532 rfl
        show wp _ _ 255 40 [(3, vI z141470), (0, .ref r0), (1, vI a1), (2, vI a2)] [vI z141533] _ H141527 _
        refine wp_of e255 c255_40 (rw_goto (p1 := 65) (by decide) ?_)
        have k141536 : wKI H141527 r0 = wKI H141460 r0 := (wKI_fr w141464 g0 f141532 rfl)
        exact wp_ireturn e255 c255_65 rfl ⟨rfl, w141531, f141535, z141533, rfl, ⟨by omega, by omega⟩, by omega⟩
/-! StrikeAwakeModel.findLikeliest()J -/
theorem e257 : wq_en 257 = some (9, 5, false, some FieldType.long) := rfl
theorem cg257_0 : mc_cd 257 0 = some (.iconst (-1), 1) ∧ mc_cd 257 1 = some (.istore_n 1, 1) ∧ mc_cd 257 2 = some (.lconst 0, 1) ∧ mc_cd 257 3 = some (.lstore_n 2, 1) ∧ mc_cd 257 4 = some (.iconst 0, 1) ∧ mc_cd 257 5 = some (.istore 4, 2) ∧ mc_cd 257 7 = some (.iload 4, 2) ∧ mc_cd 257 9 = some (.aload_n 0, 1) := by decide +kernel
theorem c257_0 : mc_cd 257 0 = some (.iconst (-1), 1) := cg257_0.1
theorem c257_1 : mc_cd 257 1 = some (.istore_n 1, 1) := cg257_0.2.1
theorem c257_2 : mc_cd 257 2 = some (.lconst 0, 1) := cg257_0.2.2.1
theorem c257_3 : mc_cd 257 3 = some (.lstore_n 2, 1) := cg257_0.2.2.2.1
theorem c257_4 : mc_cd 257 4 = some (.iconst 0, 1) := cg257_0.2.2.2.2.1
theorem c257_5 : mc_cd 257 5 = some (.istore 4, 2) := cg257_0.2.2.2.2.2.1
theorem c257_7 : mc_cd 257 7 = some (.iload 4, 2) := cg257_0.2.2.2.2.2.2.1
theorem c257_9 : mc_cd 257 9 = some (.aload_n 0, 1) := cg257_0.2.2.2.2.2.2.2
theorem cg257_10 : mc_cd 257 10 = some (.getfield 422, 3) ∧ mc_cd 257 13 = some (.if_icmp .ge 40, 3) ∧ mc_cd 257 16 = some (.aload_n 0, 1) ∧ mc_cd 257 17 = some (.aload_n 0, 1) ∧ mc_cd 257 18 = some (.getfield 42, 3) ∧ mc_cd 257 21 = some (.iload 4, 2) ∧ mc_cd 257 23 = some (.iaload, 1) ∧ mc_cd 257 24 = some (.invokevirtual 425, 3) := by decide +kernel
theorem c257_10 : mc_cd 257 10 = some (.getfield 422, 3) := cg257_10.1
theorem c257_13 : mc_cd 257 13 = some (.if_icmp .ge 40, 3) := cg257_10.2.1
theorem c257_16 : mc_cd 257 16 = some (.aload_n 0, 1) := cg257_10.2.2.1
theorem c257_17 : mc_cd 257 17 = some (.aload_n 0, 1) := cg257_10.2.2.2.1
theorem c257_18 : mc_cd 257 18 = some (.getfield 42, 3) := cg257_10.2.2.2.2.1
theorem c257_21 : mc_cd 257 21 = some (.iload 4, 2) := cg257_10.2.2.2.2.2.1
theorem c257_23 : mc_cd 257 23 = some (.iaload, 1) := cg257_10.2.2.2.2.2.2.1
theorem c257_24 : mc_cd 257 24 = some (.invokevirtual 425, 3) := cg257_10.2.2.2.2.2.2.2
theorem cg257_27 : mc_cd 257 27 = some (.aload_n 0, 1) ∧ mc_cd 257 28 = some (.invokevirtual 437, 3) ∧ mc_cd 257 31 = some (.lload_n 2, 1) ∧ mc_cd 257 32 = some (.lcmp, 1) ∧ mc_cd 257 33 = some (.ifCond .gt 6, 3) ∧ mc_cd 257 36 = some (.goto 11, 3) ∧ mc_cd 257 39 = some (.aload_n 0, 1) ∧ mc_cd 257 40 = some (.invokevirtual 437, 3) := by decide +kernel
theorem c257_27 : mc_cd 257 27 = some (.aload_n 0, 1) := cg257_27.1
theorem c257_28 : mc_cd 257 28 = some (.invokevirtual 437, 3) := cg257_27.2.1
theorem c257_31 : mc_cd 257 31 = some (.lload_n 2, 1) := cg257_27.2.2.1
theorem c257_32 : mc_cd 257 32 = some (.lcmp, 1) := cg257_27.2.2.2.1
theorem c257_33 : mc_cd 257 33 = some (.ifCond .gt 6, 3) := cg257_27.2.2.2.2.1
theorem c257_36 : mc_cd 257 36 = some (.goto 11, 3) := cg257_27.2.2.2.2.2.1
theorem c257_39 : mc_cd 257 39 = some (.aload_n 0, 1) := cg257_27.2.2.2.2.2.2.1
theorem c257_40 : mc_cd 257 40 = some (.invokevirtual 437, 3) := cg257_27.2.2.2.2.2.2.2
theorem cg257_43 : mc_cd 257 43 = some (.lstore_n 2, 1) ∧ mc_cd 257 44 = some (.iload 4, 2) ∧ mc_cd 257 46 = some (.istore_n 1, 1) ∧ mc_cd 257 47 = some (.iinc 4 1, 3) ∧ mc_cd 257 50 = some (.goto (-43), 3) ∧ mc_cd 257 53 = some (.aload_n 0, 1) ∧ mc_cd 257 54 = some (.aload_n 0, 1) ∧ mc_cd 257 55 = some (.getfield 42, 3) := by decide +kernel
theorem c257_43 : mc_cd 257 43 = some (.lstore_n 2, 1) := cg257_43.1
theorem c257_44 : mc_cd 257 44 = some (.iload 4, 2) := cg257_43.2.1
theorem c257_46 : mc_cd 257 46 = some (.istore_n 1, 1) := cg257_43.2.2.1
theorem c257_47 : mc_cd 257 47 = some (.iinc 4 1, 3) := cg257_43.2.2.2.1
theorem c257_50 : mc_cd 257 50 = some (.goto (-43), 3) := cg257_43.2.2.2.2.1
theorem c257_53 : mc_cd 257 53 = some (.aload_n 0, 1) := cg257_43.2.2.2.2.2.1
theorem c257_54 : mc_cd 257 54 = some (.aload_n 0, 1) := cg257_43.2.2.2.2.2.2.1
theorem c257_55 : mc_cd 257 55 = some (.getfield 42, 3) := cg257_43.2.2.2.2.2.2.2
theorem cg257_58 : mc_cd 257 58 = some (.iload_n 1, 1) ∧ mc_cd 257 59 = some (.iaload, 1) ∧ mc_cd 257 60 = some (.invokevirtual 425, 3) ∧ mc_cd 257 63 = some (.lload_n 2, 1) ∧ mc_cd 257 64 = some (.lreturn, 1) := by decide +kernel
theorem c257_58 : mc_cd 257 58 = some (.iload_n 1, 1) := cg257_58.1
theorem c257_59 : mc_cd 257 59 = some (.iaload, 1) := cg257_58.2.1
theorem c257_60 : mc_cd 257 60 = some (.invokevirtual 425, 3) := cg257_58.2.2.1
theorem c257_63 : mc_cd 257 63 = some (.lload_n 2, 1) := cg257_58.2.2.2.1
theorem c257_64 : mc_cd 257 64 = some (.lreturn, 1) := cg257_58.2.2.2.2
abbrev q_257 (r0 : Nat) (pp : Nat) (T : wq_T) (H : wq_H) : Option Value → wq_T → wq_H → Prop := fun r T' H' => T = T' ∧ WT T H' ∧ wfr [(51, 999)] T H H' ∧ ∃ z : Int, some (vL z) = r ∧ (0 ≤ z ∧ z ≤ 1000000)
set_option maxHeartbeats 4000000 in
theorem s_257 {kt : Nat → Option mc_E} {T : wq_T} {H : wq_H} {r0 : Nat} {pp : Nat} (hW : WT T H) (g0 : T.2.2.2 r0 = some 42) (qpp : H r0 3 = (pp : Int)) (gpp : T.2.2.2 pp = some 54) (p0 : H r0 29 = 0 ∨ 0 < wLM H r0) (p1 : 0 < H r0 29) : wpc kt 3 257 [.ref r0] T H (q_257 r0 pp T H) := by
  refine wp_enter e257 (Nat.le_of_ble_eq_true rfl) rfl ?_
  have f0 : wfr [(51, 999)] T H H := wfr.rf
  show wp _ _ 257 0 [(0, .ref r0)] [] _ H _
  have b141942 : 0 ≤ H r0 29 ∧ H r0 29 ≤ 20000 := hW.box g0 (n := 33) rfl (by decide) rfl
  refine wp_of e257 c257_0 (rw_iconst (pc' := 1) rfl ?_)
  refine wp_of e257 c257_1 (rw_istore_n (pc' := 2) (z := -1) (L' := [(1, vI (-1)), (0, .ref r0)]) rfl rfl rfl ?_)
  refine wp_of e257 c257_2 (rw_lconst (pc' := 3) (z := 0) rfl rfl ?_)
  refine wp_of e257 c257_3 (rw_lstore_n (pc' := 4) (z := 0) (L' := [(2, vL 0), (1, vI (-1)), (0, .ref r0)]) rfl rfl rfl ?_)
  refine wp_of e257 c257_4 (rw_iconst (pc' := 5) rfl ?_)
  refine wp_of e257 c257_5 (rw_istore (pc' := 7) (z := 0) (L' := [(4, vI 0), (2, vL 0), (1, vI (-1)), (0, .ref r0)]) rfl rfl rfl ?_)
  have lp142287 : ∀ (n142288 : Nat) (v142290 : Int) (v142291 : Int) (v142292 : Int) (H142293 : wq_H), WT T H142293 → wfr [(51, 999)] T H H142293 → (0 ≤ v142290 ∧ v142290 ≤ 20000) → (0 ≤ v142291 ∧ v142291 ≤ 1000000) → ((-1) ≤ v142292 ∧ v142292 ≤ 19999) → (v142290 ≤ H142293 r0 29) → (0 ≤ v142292 ∨ (v142290 = 0 ∧ v142291 = 0)) → (20000 - v142290).toNat = n142288 → wp kt 2 257 7 [(4, vI v142290), (2, vL v142291), (1, vI v142292), (0, .ref r0)] [] T H142293 (q_257 r0 pp T H) := by
    intro n142288
    induction n142288 using Nat.strongRecOn with
    | _ n142288 ih142289 =>
      intro v142290 v142291 v142292 H142293 w142294 f142295 b142296 b142297 b142298 x142299 x142300 m142301
      have f142302 := f0.tr f142295 rfl
      have k142303 : H142293 r0 29 = H r0 29 := (f142295 r0 29 _ g0 rfl)
      refine wp_of e257 c257_7 (rw_iload (pc' := 9) (z := v142290) rfl rfl ?_)
      refine wp_of e257 c257_9 (rw_aload_n (pc' := 10) (v := .ref r0) rfl rfl rfl ?_)
      refine wp_of e257 c257_10 (xg_I (pc' := 13) lf_9_422 w142294 g0 sh_42 (by decide) (by decide) ty_42_29 rfl rfl (fun b142304 b142305 => ?_))
      refine wp_of e257 c257_13 (rw_icmp_ge (p1 := 53) (p2 := 16) (by decide) rfl ⟨by omega, by omega⟩ ⟨by omega, by omega⟩ (fun c142306 => ?_) (fun c142306 => ?_))
      · refine wp_of e257 c257_53 (rw_aload_n (pc' := 54) (v := .ref r0) rfl rfl rfl ?_)
        refine wp_of e257 c257_54 (rw_aload_n (pc' := 55) (v := .ref r0) rfl rfl rfl ?_)
        refine wp_of e257 c257_55 (xg_R (pc' := 58) lf_9_42 w142294 g0 sh_42 (by decide) (by decide) ty_42_30 rfl rfl (fun r142307 q142308 g142309 => ?_))
        refine wp_of e257 c257_58 (rw_iload_n (pc' := 59) (z := v142292) rfl rfl ?_)
        refine wp_of e257 c257_59 (xa_I (so := 0) (pc' := 60) w142294 g142309 sh_52 (by decide) (ty_52 _) (by omega) (by omega) rfl (fun b142310 b142311 => ?_))
        have k142312 : wLM H142293 r0 = wLM H r0 := (wLM_fr hW g0 f142295 rfl)
        have k142313 : H142293 r0 3 = H r0 3 := (f142295 r0 3 _ g0 rfl)
        have q142314 : H142293 r0 3 = (pp : Int) := k142313.trans qpp
        refine wp_of e257 c257_60 (xc_V (pc' := 63) (r := r0) (as := [vI (H142293 r142307 (v142292.toNat))]) (st := []) (lm_9_425) rfl rfl (Nat.le_of_ble_eq_true rfl) w142294 g0 sh_42 (by decide) rfl (by decide) (s_243 w142294 g0 ⟨by omega, by omega⟩ q142314 gpp (by omega)) (fun R142315 T142316 H142317 p142318 => ?_))
        obtain ⟨e142319, w142321, f142322, e142320⟩ := p142318
        subst e142319
        subst e142320
        have f142323 := f142302.tr f142322 rfl
        show wp _ _ 257 63 [(4, vI v142290), (2, vL v142291), (1, vI v142292), (0, .ref r0)] [] _ H142317 _
        refine wp_of e257 c257_63 (rw_lload_n (pc' := 64) (z := v142291) rfl rfl ?_)
        exact wp_lreturn e257 c257_64 rfl ⟨rfl, w142321, f142323, v142291, rfl, ⟨by omega, by omega⟩⟩
      · refine wp_of e257 c257_16 (rw_aload_n (pc' := 17) (v := .ref r0) rfl rfl rfl ?_)
        refine wp_of e257 c257_17 (rw_aload_n (pc' := 18) (v := .ref r0) rfl rfl rfl ?_)
        refine wp_of e257 c257_18 (xg_R (pc' := 21) lf_9_42 w142294 g0 sh_42 (by decide) (by decide) ty_42_30 rfl rfl (fun r142324 q142325 g142326 => ?_))
        refine wp_of e257 c257_21 (rw_iload (pc' := 23) (z := v142290) rfl rfl ?_)
        refine wp_of e257 c257_23 (xa_I (so := 0) (pc' := 24) w142294 g142326 sh_52 (by decide) (ty_52 _) (by omega) (by omega) rfl (fun b142327 b142328 => ?_))
        have k142329 : wLM H142293 r0 = wLM H r0 := (wLM_fr hW g0 f142295 rfl)
        have k142330 : H142293 r0 3 = H r0 3 := (f142295 r0 3 _ g0 rfl)
        have q142331 : H142293 r0 3 = (pp : Int) := k142330.trans qpp
        refine wp_of e257 c257_24 (xc_V (pc' := 27) (r := r0) (as := [vI (H142293 r142324 (v142290.toNat))]) (st := []) (lm_9_425) rfl rfl (Nat.le_of_ble_eq_true rfl) w142294 g0 sh_42 (by decide) rfl (by decide) (s_243 w142294 g0 ⟨by omega, by omega⟩ q142331 gpp (by omega)) (fun R142332 T142333 H142334 p142335 => ?_))
        obtain ⟨e142336, w142338, f142339, e142337⟩ := p142335
        subst e142336
        subst e142337
        have f142340 := f142302.tr f142339 rfl
        have f142341 := f142295.tr f142339 rfl
        show wp _ _ 257 27 [(4, vI v142290), (2, vL v142291), (1, vI v142292), (0, .ref r0)] [] _ H142334 _
        refine wp_of e257 c257_27 (rw_aload_n (pc' := 28) (v := .ref r0) rfl rfl rfl ?_)
        have k142342 : H142334 r0 3 = H142293 r0 3 := (f142339 r0 3 _ g0 rfl)
        have q142343 : H142334 r0 3 = (pp : Int) := k142342.trans q142331
        refine wp_of e257 c257_28 (xc_V (pc' := 31) (r := r0) (as := []) (st := []) (lm_9_437) rfl rfl (Nat.le_of_ble_eq_true rfl) w142338 g0 sh_42 (by decide) rfl (by decide) (s_248 w142338 g0 q142343 gpp) (fun R142344 T142345 H142346 p142347 => ?_))
        obtain ⟨e142348, e142350, z142351, e142349, b142352⟩ := p142347
        subst e142348
        subst e142349
        subst e142350
        show wp _ _ 257 31 [(4, vI v142290), (2, vL v142291), (1, vI v142292), (0, .ref r0)] [vL z142351] _ H142334 _
        refine wp_of e257 c257_31 (rw_lload_n (pc' := 32) (z := v142291) rfl rfl ?_)
        refine wp_of e257 c257_32 (rw_lcmp (pc' := 33) rfl ⟨by omega, by omega⟩ ⟨by omega, by omega⟩ ?_)
        have b142353 := wq_cmp_b z142351 v142291
        refine wp_of e257 c257_33 (rw_if_gt (p1 := 39) (p2 := 36) (by decide) rfl ⟨by omega, by omega⟩ (fun c142354 => ?_) (fun c142354 => ?_))
        · refine wp_of e257 c257_39 (rw_aload_n (pc' := 40) (v := .ref r0) rfl rfl rfl ?_)
          refine wp_of e257 c257_40 (xc_V (pc' := 43) (r := r0) (as := []) (st := []) (lm_9_437) rfl rfl (Nat.le_of_ble_eq_true rfl) w142338 g0 sh_42 (by decide) rfl (by decide) (s_248 w142338 g0 q142343 gpp) (fun R142355 T142356 H142357 p142358 => ?_))
          obtain ⟨e142359, e142361, z142362, e142360, b142363⟩ := p142358
          subst e142359
          subst e142360
          subst e142361
          show wp _ _ 257 43 [(4, vI v142290), (2, vL v142291), (1, vI v142292), (0, .ref r0)] [vL z142362] _ H142334 _
          refine wp_of e257 c257_43 (rw_lstore_n (pc' := 44) (z := z142362) (L' := [(2, vL z142362), (4, vI v142290), (1, vI v142292), (0, .ref r0)]) rfl rfl rfl ?_)
          refine wp_of e257 c257_44 (rw_iload (pc' := 46) (z := v142290) rfl rfl ?_)
          refine wp_of e257 c257_46 (rw_istore_n (pc' := 47) (z := v142290) (L' := [(1, vI v142290), (2, vL z142362), (4, vI v142290), (0, .ref r0)]) rfl rfl rfl ?_)
          refine wp_of e257 c257_47 (rw_iinc (pc' := 50) (z := v142290) (L' := [(4, vI (v142290 + 1)), (1, vI v142290), (2, vL z142362), (0, .ref r0)]) rfl rfl rfl rfl ?_)
          refine wp_of e257 c257_50 (rw_goto (p1 := 7) (by decide) ?_)
          have k142364 : H142334 r0 29 = H142293 r0 29 := (f142339 r0 29 _ g0 rfl)
          exact wp_lc (ks := [4, 1, 2, 0]) (wl_c rfl (wl_c rfl (wl_c rfl (wl_c rfl wl_n)))) rfl (by decide) (ih142289 _ (by omega) (v142290 + 1) z142362 v142290 H142334 w142338 f142341 ⟨by omega, by omega⟩ ⟨by omega, by omega⟩ ⟨by omega, by omega⟩ (by omega) (by omega) rfl)
        · refine wp_of e257 c257_36 (rw_goto (p1 := 47) (by decide) ?_)
          refine wp_of e257 c257_47 (rw_iinc (pc' := 50) (z := v142290) (L' := [(4, vI (v142290 + 1)), (2, vL v142291), (1, vI v142292), (0, .ref r0)]) rfl rfl rfl rfl ?_)
          refine wp_of e257 c257_50 (rw_goto (p1 := 7) (by decide) ?_)
          have k142365 : H142334 r0 29 = H142293 r0 29 := (f142339 r0 29 _ g0 rfl)
          exact wp_lc (ks := [4, 2, 1, 0]) (wl_c rfl (wl_c rfl (wl_c rfl (wl_c rfl wl_n)))) rfl (by decide) (ih142289 _ (by omega) (v142290 + 1) v142291 v142292 H142334 w142338 f142341 ⟨by omega, by omega⟩ ⟨by omega, by omega⟩ ⟨by omega, by omega⟩ (by omega) (by omega) rfl)
  exact wp_lc (ks := [4, 2, 1, 0]) (wl_c rfl (wl_c rfl (wl_c rfl (wl_c rfl wl_n)))) rfl (by decide) (lp142287 _ 0 0 (-1) H hW wfr.rf ⟨by omega, by omega⟩ ⟨by omega, by omega⟩ ⟨by omega, by omega⟩ (by omega) (by omega) rfl)
