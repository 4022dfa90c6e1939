/-! methods (own work, written by wip/gen2/sx.py) -/
/-! StrikeAwake$Tokens.begin([BI)V -/
theorem e15 : wq_en 15 = some (2, 3, false, none) := rfl
theorem c15_0 : mc_cd 15 0 = some (.aload_n 0, 1) := by decide +kernel
theorem c15_1 : mc_cd 15 1 = some (.aload_n 1, 1) := by decide +kernel
theorem c15_2 : mc_cd 15 2 = some (.putfield 7, 3) := by decide +kernel
theorem c15_5 : mc_cd 15 5 = some (.aload_n 0, 1) := by decide +kernel
theorem c15_6 : mc_cd 15 6 = some (.iload_n 2, 1) := by decide +kernel
theorem c15_7 : mc_cd 15 7 = some (.aload_n 1, 1) := by decide +kernel
theorem c15_8 : mc_cd 15 8 = some (.arraylength, 1) := by decide +kernel
theorem c15_9 : mc_cd 15 9 = some (.invokestatic 13, 3) := by decide +kernel
theorem c15_12 : mc_cd 15 12 = some (.putfield 19, 3) := by decide +kernel
theorem c15_15 : mc_cd 15 15 = some (.aload_n 0, 1) := by decide +kernel
theorem c15_16 : mc_cd 15 16 = some (.iconst 0, 1) := by decide +kernel
theorem c15_17 : mc_cd 15 17 = some (.putfield 23, 3) := by decide +kernel
theorem c15_20 : mc_cd 15 20 = some (.aload_n 0, 1) := by decide +kernel
theorem c15_21 : mc_cd 15 21 = some (.invokevirtual 26, 3) := by decide +kernel
theorem c15_24 : mc_cd 15 24 = some (.return_, 1) := by decide +kernel
abbrev q_15 (r0 : Nat) (r1 : Nat) (a2 : Int) (T : wq_T) (H : wq_H) : Option Value → wq_T → wq_H → Prop := fun r T' H' => T = T' ∧ WT T H' ∧ wfr [(4, 0), (4, 1), (4, 2), (4, 3), (4, 4), (4, 5), (4, 6)] T H H' ∧ none = r ∧ (H' r0 0 = (r1 : Int))
set_option maxHeartbeats 4000000 in
theorem s_15 {kt : Nat → Option mc_E} {T : wq_T} {H : wq_H} {r0 : Nat} {r1 : Nat} {a2 : Int} (hW : WT T H) (g0 : T.2.2.2 r0 = some 4) (g1 : T.2.2.2 r1 = some 2) (i2 : (-2147483648) ≤ a2 ∧ a2 ≤ 2147483647) : wpc kt 2 15 [.ref r0, .ref r1, vI a2] T H (q_15 r0 r1 a2 T H) := by
  refine wp_enter e15 (Nat.le_of_ble_eq_true rfl) rfl ?_
  have f0 : wfr [(4, 0), (4, 1), (4, 2), (4, 3), (4, 4), (4, 5), (4, 6)] T H H := wfr.rf
  show wp _ _ 15 0 [(0, .ref r0), (1, .ref r1), (2, vI a2)] [] _ H _
  refine wp_of e15 c15_0 (rw_aload_n (pc' := 1) (v := .ref r0) rfl rfl rfl ?_)
  refine wp_of e15 c15_1 (rw_aload_n (pc' := 2) (v := .ref r1) rfl rfl rfl ?_)
  refine wp_of e15 c15_2 (xp_R (pc' := 5) lf_2_7 hW g0 sh_4 (by decide) (by decide) rfl rfl (wok_4 ty_4_0 g1) rfl (fun H6775 e6776 w6777 => ?_))
  have f6778 := f0.put' e6776 g0 rfl
  have q6779 : H6775 r0 0 = (r1 : Int) := wq_u_s e6776
  refine wp_of e15 c15_5 (rw_aload_n (pc' := 6) (v := .ref r0) rfl rfl rfl ?_)
  refine wp_of e15 c15_6 (rw_iload_n (pc' := 7) (z := a2) rfl rfl ?_)
  refine wp_of e15 c15_7 (rw_aload_n (pc' := 8) (v := .ref r1) rfl rfl rfl ?_)
  refine wp_of e15 c15_8 (xa_N (pc' := 9) (n := 900) w6777 g1 sh_2 (by decide) rfl ?_)
  refine wp_of e15 c15_9 (rw_math2 (pc' := 12) (z := min a2 900) rfl rfl ⟨by omega, by omega⟩ ⟨by omega, by omega⟩ (Or.inl ⟨rfl, rfl⟩) (Nat.le_of_ble_eq_true rfl) rfl ?_)
  obtain ⟨v6780, e6781⟩ : ∃ x : Int, x = min a2 900 := ⟨_, rfl⟩
  rw [← e6781]
  have b6782 : v6780 = a2 ∨ v6780 = 900 := by
    rw [e6781]
    omega
  have b6783 : v6780 ≤ a2 ∧ v6780 ≤ 900 := by
    rw [e6781]
    omega
  refine wp_of e15 c15_12 (xp_I (pc' := 15) lf_2_19 w6777 g0 sh_4 (by decide) (by decide) ty_4_1 rfl rfl (by omega) (by omega) ⟨by omega, by omega⟩ rfl (fun H6784 e6785 w6786 => ?_))
  have f6787 := f6778.put' e6785 g0 rfl
  have k6788 : H6784 r0 1 = v6780 := wq_u_s e6785
  refine wp_of e15 c15_15 (rw_aload_n (pc' := 16) (v := .ref r0) rfl rfl rfl ?_)
  refine wp_of e15 c15_16 (rw_iconst (pc' := 17) rfl ?_)
  refine wp_of e15 c15_17 (xp_I (pc' := 20) lf_2_23 w6786 g0 sh_4 (by decide) (by decide) ty_4_2 rfl rfl (by omega) (by omega) ⟨by omega, by omega⟩ rfl (fun H6789 e6790 w6791 => ?_))
  have f6792 := f6787.put' e6790 g0 rfl
  have k6793 : H6789 r0 2 = 0 := wq_u_s e6790
  refine wp_of e15 c15_20 (rw_aload_n (pc' := 21) (v := .ref r0) rfl rfl rfl ?_)
  have k6794 : H6789 r0 0 = H6775 r0 0 := ((wq_u_j e6790 rfl).trans (wq_u_j e6785 rfl))
  have q6795 : H6789 r0 0 = (r1 : Int) := k6794.trans q6779
  refine wp_of e15 c15_21 (xc_V (pc' := 24) (r := r0) (as := []) (st := []) (lm_2_26) rfl rfl (Nat.le_of_ble_eq_true rfl) w6791 g0 sh_4 (by decide) rfl (by decide) (s_16 w6791 g0 q6795 g1) (fun R6796 T6797 H6798 p6799 => ?_))
  obtain ⟨e6800, w6802, f6803, e6801⟩ := p6799
  subst e6800
  subst e6801
  have f6804 := f6792.tr f6803 rfl
  show wp _ _ 15 24 [(0, .ref r0), (1, .ref r1), (2, vI a2)] [] _ H6798 _
  have k6805 : H6798 r0 0 = H6789 r0 0 := (f6803 r0 0 _ g0 rfl)
  have q6806 : H6798 r0 0 = (r1 : Int) := k6805.trans q6795
  exact wp_return e15 c15_24 rfl ⟨rfl, w6802, f6804, rfl, by omega⟩
/-! StrikeAwake$Tokens.isWord(Ljava/lang/String;)Z -/
theorem e19 : wq_en 19 = some (2, 5, false, some FieldType.boolean) := rfl
theorem c19_0 : mc_cd 19 0 = some (.aload_n 0, 1) := by decide +kernel
theorem c19_1 : mc_cd 19 1 = some (.getfield 41, 3) := by decide +kernel
theorem c19_4 : mc_cd 19 4 = some (.iconst 1, 1) := by decide +kernel
theorem c19_5 : mc_cd 19 5 = some (.if_icmp .eq 5, 3) := by decide +kernel
theorem c19_8 : mc_cd 19 8 = some (.iconst 0, 1) := by decide +kernel
theorem c19_9 : mc_cd 19 9 = some (.ireturn, 1) := by decide +kernel
theorem c19_10 : mc_cd 19 10 = some (.lconst 0, 1) := by decide +kernel
theorem c19_11 : mc_cd 19 11 = some (.lstore_n 2, 1) := by decide +kernel
theorem c19_12 : mc_cd 19 12 = some (.iconst 0, 1) := by decide +kernel
theorem c19_13 : mc_cd 19 13 = some (.istore 4, 2) := by decide +kernel
theorem c19_15 : mc_cd 19 15 = some (.iload 4, 2) := by decide +kernel
theorem c19_17 : mc_cd 19 17 = some (.aload_n 1, 1) := by decide +kernel
theorem c19_18 : mc_cd 19 18 = some (.invokevirtual 44, 3) := by decide +kernel
theorem c19_21 : mc_cd 19 21 = some (.if_icmp .ge 28, 3) := by decide +kernel
theorem c19_24 : mc_cd 19 24 = some (.lload_n 2, 1) := by decide +kernel
theorem c19_25 : mc_cd 19 25 = some (.ldc2_w 36, 3) := by decide +kernel
theorem c19_28 : mc_cd 19 28 = some (.lmul, 1) := by decide +kernel
theorem c19_29 : mc_cd 19 29 = some (.aload_n 1, 1) := by decide +kernel
theorem c19_30 : mc_cd 19 30 = some (.iload 4, 2) := by decide +kernel
theorem c19_32 : mc_cd 19 32 = some (.invokevirtual 49, 3) := by decide +kernel
theorem c19_35 : mc_cd 19 35 = some (.bipush 97, 2) := by decide +kernel
theorem c19_37 : mc_cd 19 37 = some (.isub, 1) := by decide +kernel
theorem c19_38 : mc_cd 19 38 = some (.iconst 1, 1) := by decide +kernel
theorem c19_39 : mc_cd 19 39 = some (.iadd, 1) := by decide +kernel
theorem c19_40 : mc_cd 19 40 = some (.i2l, 1) := by decide +kernel
theorem c19_41 : mc_cd 19 41 = some (.ladd, 1) := by decide +kernel
theorem c19_42 : mc_cd 19 42 = some (.lstore_n 2, 1) := by decide +kernel
theorem c19_43 : mc_cd 19 43 = some (.iinc 4 1, 3) := by decide +kernel
theorem c19_46 : mc_cd 19 46 = some (.goto (-31), 3) := by decide +kernel
theorem c19_49 : mc_cd 19 49 = some (.lload_n 2, 1) := by decide +kernel
theorem c19_50 : mc_cd 19 50 = some (.aload_n 0, 1) := by decide +kernel
theorem c19_51 : mc_cd 19 51 = some (.getfield 32, 3) := by decide +kernel
theorem c19_54 : mc_cd 19 54 = some (.lcmp, 1) := by decide +kernel
theorem c19_55 : mc_cd 19 55 = some (.ifCond .ne 7, 3) := by decide +kernel
theorem c19_58 : mc_cd 19 58 = some (.iconst 1, 1) := by decide +kernel
theorem c19_59 : mc_cd 19 59 = some (.goto 4, 3) := by decide +kernel
theorem c19_62 : mc_cd 19 62 = some (.iconst 0, 1) := by decide +kernel
theorem c19_63 : mc_cd 19 63 = some (.ireturn, 1) := by decide +kernel
abbrev q_19 (r0 : Nat) (s1 : Nat) (T : wq_T) (H : wq_H) : Option Value → wq_T → wq_H → Prop := fun r T' H' => T = T' ∧ H = H' ∧ ∃ z : Int, some (vI z) = r ∧ (0 ≤ z ∧ z ≤ 1)
set_option maxHeartbeats 4000000 in
theorem s_19 {kt : Nat → Option mc_E} {T : wq_T} {H : wq_H} {r0 : Nat} {s1 : Nat} {t1 : List Int32} (hW : WT T H) (g0 : T.2.2.2 r0 = some 4) (h1 : mc_find mc_sb s1 = some t1) : wpc kt 1 19 [.ref r0, .ref s1] T H (q_19 r0 s1 T H) := by
  refine wp_enter e19 (Nat.le_of_ble_eq_true rfl) rfl ?_
  show wp _ _ 19 0 [(0, .ref r0), (1, .ref s1)] [] _ H _
  refine wp_of e19 c19_0 (rw_aload_n (pc' := 1) (v := .ref r0) rfl rfl rfl ?_)
  refine wp_of e19 c19_1 (xg_I (pc' := 4) lf_2_41 hW g0 sh_4 (by decide) (by decide) ty_4_3 rfl rfl (fun b6911 b6912 => ?_))
  refine wp_of e19 c19_4 (rw_iconst (pc' := 5) rfl ?_)
  refine wp_of e19 c19_5 (rw_icmp_eq (p1 := 10) (p2 := 8) (by decide) rfl ⟨by omega, by omega⟩ ⟨by omega, by omega⟩ (fun c6913 => ?_) (fun c6913 => ?_))
  · refine wp_of e19 c19_10 (rw_lconst (pc' := 11) (z := 0) rfl rfl ?_)
    refine wp_of e19 c19_11 (rw_lstore_n (pc' := 12) (z := 0) (L' := [(2, vL 0), (0, .ref r0), (1, .ref s1)]) rfl rfl rfl ?_)
    refine wp_of e19 c19_12 (rw_iconst (pc' := 13) rfl ?_)
    refine wp_of e19 c19_13 (rw_istore (pc' := 15) (z := 0) (L' := [(4, vI 0), (2, vL 0), (0, .ref r0), (1, .ref s1)]) rfl rfl rfl ?_)
    have lp6998 : ∀ (n6999 : Nat) (v7001 : Int) (v7002 : Int), (0 ≤ v7001 ∧ v7001 ≤ 63) → ((-9223372036854775808) ≤ v7002 ∧ v7002 ≤ 9223372036854775807) → (63 - v7001).toNat = n6999 → wp kt 0 19 15 [(4, vI v7001), (2, vL v7002), (0, .ref r0), (1, .ref s1)] [] T H (q_19 r0 s1 T H) := by
      intro n6999
      induction n6999 using Nat.strongRecOn with
      | _ n6999 ih7000 =>
        intro v7001 v7002 b7005 b7006 m7007
        refine wp_of e19 c19_15 (rw_iload (pc' := 17) (z := v7001) rfl rfl ?_)
        refine wp_of e19 c19_17 (rw_aload_n (pc' := 18) (v := .ref s1) rfl rfl rfl ?_)
        refine wp_of e19 c19_18 (rw_slen (pc' := 21) rfl rfl rfl h1 (Nat.le_of_ble_eq_true rfl) rfl ?_)
        have k7008 := (mc_sb_k h1).2.1
        show wp _ _ 19 21 [(4, vI v7001), (2, vL v7002), (0, .ref r0), (1, .ref s1)] [vI ((t1.length : Int)), vI v7001] _ H _
        refine wp_of e19 c19_21 (rw_icmp_ge (p1 := 49) (p2 := 24) (by decide) rfl ⟨by omega, by omega⟩ ⟨by omega, by omega⟩ (fun c7009 => ?_) (fun c7009 => ?_))
        · refine wp_of e19 c19_49 (rw_lload_n (pc' := 50) (z := v7002) rfl rfl ?_)
          refine wp_of e19 c19_50 (rw_aload_n (pc' := 51) (v := .ref r0) rfl rfl rfl ?_)
          refine wp_of e19 c19_51 (xg_L (pc' := 54) lf_2_32 hW g0 sh_4 (by decide) (by decide) ty_4_6 rfl rfl (fun b7010 b7011 => ?_))
          refine wp_of e19 c19_54 (rw_lcmp (pc' := 55) rfl ⟨by omega, by omega⟩ ⟨by omega, by omega⟩ ?_)
          have b7012 := wq_cmp_b v7002 (H r0 6)
          refine wp_of e19 c19_55 (rw_if_ne (p1 := 62) (p2 := 58) (by decide) rfl ⟨by omega, by omega⟩ (fun c7013 => ?_) (fun c7013 => ?_))
          · refine wp_of e19 c19_62 (rw_iconst (pc' := 63) rfl ?_)
            exact wp_zreturn e19 c19_63 rfl (by omega) ⟨rfl, rfl, 0, rfl, ⟨by omega, by omega⟩⟩
          · refine wp_of e19 c19_58 (rw_iconst (pc' := 59) rfl ?_)
            refine wp_of e19 c19_59 (rw_goto (p1 := 63) (by decide) ?_)
            exact wp_zreturn e19 c19_63 rfl (by omega) ⟨rfl, rfl, 1, rfl, ⟨by omega, by omega⟩⟩
        · refine wp_of e19 c19_24 (rw_lload_n (pc' := 25) (z := v7002) rfl rfl ?_)
          refine wp_of e19 c19_25 (rw_ldc2 (pc' := 28) (z := 32) rfl rfl rfl ?_)
          refine wp_of e19 c19_28 (rw_lmulw (pc' := 29) rfl ?_)
          obtain ⟨v7014, e7015⟩ : ∃ x : Int, x = wl_w (v7002 * 32) := ⟨_, rfl⟩
          rw [← e7015]
          have b7016 : -9223372036854775808 ≤ v7014 ∧ v7014 ≤ 9223372036854775807 := by
            rw [e7015]
            exact wL_w _
          refine wp_of e19 c19_29 (rw_aload_n (pc' := 30) (v := .ref s1) rfl rfl rfl ?_)
          refine wp_of e19 c19_30 (rw_iload (pc' := 32) (z := v7001) rfl rfl ?_)
          refine wp_of e19 c19_32 (rw_schr (pc' := 35) rfl rfl rfl h1 (by omega) (by omega) (Nat.le_of_ble_eq_true rfl) rfl ?_)
          obtain ⟨v7017, e7018⟩ : ∃ x : Int, x = (t1.getD (v7001).toNat 0).toInt := ⟨_, rfl⟩
          rw [← e7018]
          have b7019 : -2147483648 ≤ v7017 ∧ v7017 ≤ 2147483647 := by
            rw [e7018]
            exact wI_of _
          refine wp_of e19 c19_35 (rw_bipush (pc' := 37) (z := 97) rfl (by decide) ?_)
          refine wp_of e19 c19_37 (rw_isubw (pc' := 38) rfl ?_)
          obtain ⟨v7020, e7021⟩ : ∃ x : Int, x = wq_w (v7017 - 97) := ⟨_, rfl⟩
          rw [← e7021]
          have b7022 : -2147483648 ≤ v7020 ∧ v7020 ≤ 2147483647 := by
            rw [e7021]
            exact wI_w _
          refine wp_of e19 c19_38 (rw_iconst (pc' := 39) rfl ?_)
          refine wp_of e19 c19_39 (rw_iaddw (pc' := 40) rfl ?_)
          obtain ⟨v7023, e7024⟩ : ∃ x : Int, x = wq_w (v7020 + 1) := ⟨_, rfl⟩
          rw [← e7024]
          have b7025 : -2147483648 ≤ v7023 ∧ v7023 ≤ 2147483647 := by
            rw [e7024]
            exact wI_w _
          refine wp_of e19 c19_40 (rw_i2l (pc' := 41) rfl ⟨by omega, by omega⟩ ?_)
          refine wp_of e19 c19_41 (rw_laddw (pc' := 42) rfl ?_)
          obtain ⟨v7026, e7027⟩ : ∃ x : Int, x = wl_w (v7014 + v7023) := ⟨_, rfl⟩
          rw [← e7027]
          have b7028 : -9223372036854775808 ≤ v7026 ∧ v7026 ≤ 9223372036854775807 := by
            rw [e7027]
            exact wL_w _
          refine wp_of e19 c19_42 (rw_lstore_n (pc' := 43) (z := v7026) (L' := [(2, vL v7026), (4, vI v7001), (0, .ref r0), (1, .ref s1)]) rfl rfl rfl ?_)
          refine wp_of e19 c19_43 (rw_iinc (pc' := 46) (z := v7001) (L' := [(4, vI (v7001 + 1)), (2, vL v7026), (0, .ref r0), (1, .ref s1)]) rfl rfl rfl rfl ?_)
          refine wp_of e19 c19_46 (rw_goto (p1 := 15) (by decide) ?_)
          exact wp_lc (ks := [4, 2, 0, 1]) (wl_c rfl (wl_c rfl (wl_c rfl (wl_c rfl wl_n)))) rfl (by decide) (ih7000 _ (by omega) (v7001 + 1) v7026 ⟨by omega, by omega⟩ ⟨by omega, by omega⟩ rfl)
    exact wp_lc (ks := [4, 2, 0, 1]) (wl_c rfl (wl_c rfl (wl_c rfl (wl_c rfl wl_n)))) rfl (by decide) (lp6998 _ 0 0 ⟨by omega, by omega⟩ ⟨by omega, by omega⟩ rfl)
  · refine wp_of e19 c19_8 (rw_iconst (pc' := 9) rfl ?_)
    exact wp_zreturn e19 c19_9 rfl (by omega) ⟨rfl, rfl, 0, rfl, ⟨by omega, by omega⟩⟩
/-! StrikeAwake$Reader.reserved()LStrikeAwake$Reserved; -/
theorem e18 : wq_en 18 = some (1, 2, false, some (FieldType.object "StrikeAwake$Reserved")) := rfl
theorem c18_0 : mc_cd 18 0 = some (.iconst 0, 1) := by decide +kernel
theorem c18_1 : mc_cd 18 1 = some (.istore_n 1, 1) := by decide +kernel
theorem c18_2 : mc_cd 18 2 = some (.iload_n 1, 1) := by decide +kernel
theorem c18_3 : mc_cd 18 3 = some (.getstatic 258, 3) := by decide +kernel
theorem c18_6 : mc_cd 18 6 = some (.arraylength, 1) := by decide +kernel
theorem c18_7 : mc_cd 18 7 = some (.if_icmp .ge 33, 3) := by decide +kernel
theorem c18_10 : mc_cd 18 10 = some (.aload_n 0, 1) := by decide +kernel
theorem c18_11 : mc_cd 18 11 = some (.getfield 12, 3) := by decide +kernel
theorem c18_14 : mc_cd 18 14 = some (.getstatic 258, 3) := by decide +kernel
theorem c18_17 : mc_cd 18 17 = some (.iload_n 1, 1) := by decide +kernel
theorem c18_18 : mc_cd 18 18 = some (.aaload, 1) := by decide +kernel
theorem c18_19 : mc_cd 18 19 = some (.getfield 181, 3) := by decide +kernel
theorem c18_22 : mc_cd 18 22 = some (.invokevirtual 185, 3) := by decide +kernel
theorem c18_25 : mc_cd 18 25 = some (.ifCond .eq 9, 3) := by decide +kernel
theorem c18_28 : mc_cd 18 28 = some (.getstatic 258, 3) := by decide +kernel
theorem c18_31 : mc_cd 18 31 = some (.iload_n 1, 1) := by decide +kernel
theorem c18_32 : mc_cd 18 32 = some (.aaload, 1) := by decide +kernel
theorem c18_33 : mc_cd 18 33 = some (.areturn, 1) := by decide +kernel
theorem c18_34 : mc_cd 18 34 = some (.iinc 1 1, 3) := by decide +kernel
theorem c18_37 : mc_cd 18 37 = some (.goto (-35), 3) := by decide +kernel
theorem c18_40 : mc_cd 18 40 = some (.aconst_null, 1) := by decide +kernel
theorem c18_41 : mc_cd 18 41 = some (.areturn, 1) := by decide +kernel
abbrev q_18 (r0 : Nat) (T : wq_T) (H : wq_H) : Option Value → wq_T → wq_H → Prop := fun r T' H' => T = T' ∧ H = H' ∧ (some .null = r ∨ ∃ b : Nat, some (.ref b) = r ∧ 16 ≤ b ∧ b < 27)
set_option maxHeartbeats 4000000 in
theorem s_18 {kt : Nat → Option mc_E} {T : wq_T} {H : wq_H} {r0 : Nat} (hW : WT T H) (g0 : T.2.2.2 r0 = some 3) : wpc kt 2 18 [.ref r0] T H (q_18 r0 T H) := by
  refine wp_enter e18 (Nat.le_of_ble_eq_true rfl) rfl ?_
  show wp _ _ 18 0 [(0, .ref r0)] [] _ H _
  refine wp_of e18 c18_0 (rw_iconst (pc' := 1) rfl ?_)
  refine wp_of e18 c18_1 (rw_istore_n (pc' := 2) (z := 0) (L' := [(1, vI 0), (0, .ref r0)]) rfl rfl rfl ?_)
  have lp8307 : ∀ (n8308 : Nat) (v8310 : Int), (0 ≤ v8310 ∧ v8310 ≤ 11) → (11 - v8310).toNat = n8308 → wp kt 1 18 2 [(1, vI v8310), (0, .ref r0)] [] T H (q_18 r0 T H) := by
    intro n8308
    induction n8308 using Nat.strongRecOn with
    | _ n8308 ih8309 =>
      intro v8310 b8313 m8314
      refine wp_of e18 c18_2 (rw_iload_n (pc' := 3) (z := v8310) rfl rfl ?_)
      refine wp_of e18 c18_3 (rw_gs (pc' := 6) (k := 1) rfl rfl rfl rfl ?_)
      refine wp_of e18 c18_6 (rw_alen (pc' := 7) (n := 11) (hW.sh hW.1.1 rfl) (by decide) rfl ?_)
      refine wp_of e18 c18_7 (rw_icmp_ge (p1 := 40) (p2 := 10) (by decide) rfl ⟨by omega, by omega⟩ ⟨by omega, by omega⟩ (fun c8315 => ?_) (fun c8315 => ?_))
      · refine wp_of e18 c18_40 (rw_null (pc' := 41) rfl ?_)
        exact wp_areturn e18 c18_41 rfl rfl ⟨rfl, rfl, Or.inl rfl⟩
      · refine wp_of e18 c18_10 (rw_aload_n (pc' := 11) (v := .ref r0) rfl rfl rfl ?_)
        refine wp_of e18 c18_11 (xg_R (pc' := 14) lf_1_12 hW g0 sh_3 (by decide) (by decide) ty_3_0 rfl rfl (fun r8316 q8317 g8318 => ?_))
        refine wp_of e18 c18_14 (rw_gs (pc' := 17) (k := 1) rfl rfl rfl rfl ?_)
        refine wp_of e18 c18_17 (rw_iload_n (pc' := 18) (z := v8310) rfl rfl ?_)
        have c8320 : v8310 = 0 ∨ v8310 = 1 ∨ v8310 = 2 ∨ v8310 = 3 ∨ v8310 = 4 ∨ v8310 = 5 ∨ v8310 = 6 ∨ v8310 = 7 ∨ v8310 = 8 ∨ v8310 = 9 ∨ v8310 = 10 := by omega
        rcases c8320 with c8320 | c8320 | c8320 | c8320 | c8320 | c8320 | c8320 | c8320 | c8320 | c8320 | c8320
        · subst c8320
          have k8322 : H 1 (0 : Int).toNat = ((16 : Nat) : Int) := (hW.2 1 _ hW.1.1).2.2 0 (by decide) |> fun z => by have z1 : (16 : Int) ≤ H 1 0 ∧ H 1 0 ≤ 16 := z; exact Int.le_antisymm z1.2 z1.1
          refine wp_of e18 c18_18 (rw_aaload (pc' := 19) (n := 11) (b := 16) (hW.sh hW.1.1 rfl) (by decide) (by decide) (by decide) rfl k8322 rfl ?_)
          have k8323 : H 16 0 = ((32 : Nat) : Int) := (hW.2 16 _ (hW.1.2.2 0 (by decide))).2.2 0 (by decide) |> fun z => by have z1 : (32 : Int) ≤ H 16 0 ∧ H 16 0 ≤ 32 := z; omega
          refine wp_of e18 c18_19 (rw_getR (pc' := 22) (n := 2) (b := 32) (e := _) (lf_1_181).choose_spec.1 (lf_1_181).choose_spec.2.1 (hW.sh (hW.1.2.2 0 (by decide)) rfl) (by decide) rfl k8323 rfl ?_)
          refine wp_of e18 c18_22 (xc_V (pc' := 25) (r := r8316) (as := [.ref 32]) (st := []) (lm_1_185) rfl rfl (Nat.le_of_ble_eq_true rfl) hW g8318 sh_4 (by decide) rfl (by decide) (s_19 hW g8318 rfl) (fun R8324 T8325 H8326 p8327 => ?_))
          obtain ⟨e8328, e8330, z8331, e8329, b8332⟩ := p8327
          subst e8328
          subst e8329
          subst e8330
          show wp _ _ 18 25 [(1, vI 0), (0, .ref r0)] [vI z8331] _ H _
          refine wp_of e18 c18_25 (rw_if_eq (p1 := 34) (p2 := 28) (by decide) rfl ⟨by omega, by omega⟩ (fun c8333 => ?_) (fun c8333 => ?_))
          · refine wp_of e18 c18_34 (rw_iinc (pc' := 37) (z := 0) (L' := [(1, vI (0 + 1)), (0, .ref r0)]) rfl rfl rfl rfl ?_)
            refine wp_of e18 c18_37 (rw_goto (p1 := 2) (by decide) ?_)
            exact wp_lc (ks := [1, 0]) (wl_c rfl (wl_c rfl wl_n)) rfl (by decide) (ih8309 _ (by omega) (0 + 1) ⟨by omega, by omega⟩ rfl)
          · refine wp_of e18 c18_28 (rw_gs (pc' := 31) (k := 1) rfl rfl rfl rfl ?_)
            refine wp_of e18 c18_31 (rw_iload_n (pc' := 32) (z := 0) rfl rfl ?_)
            have k8335 : H 1 (0 : Int).toNat = ((16 : Nat) : Int) := (hW.2 1 _ hW.1.1).2.2 0 (by decide) |> fun z => by have z1 : (16 : Int) ≤ H 1 0 ∧ H 1 0 ≤ 16 := z; exact Int.le_antisymm z1.2 z1.1
            refine wp_of e18 c18_32 (rw_aaload (pc' := 33) (n := 11) (b := 16) (hW.sh hW.1.1 rfl) (by decide) (by decide) (by decide) rfl k8335 rfl ?_)
            exact wp_areturn e18 c18_33 rfl rfl ⟨rfl, rfl, Or.inr ⟨16, rfl, by decide, by decide⟩⟩
        · subst c8320
          have k8337 : H 1 (1 : Int).toNat = ((17 : Nat) : Int) := (hW.2 1 _ hW.1.1).2.2 1 (by decide) |> fun z => by have z1 : (17 : Int) ≤ H 1 1 ∧ H 1 1 ≤ 17 := z; exact Int.le_antisymm z1.2 z1.1
          refine wp_of e18 c18_18 (rw_aaload (pc' := 19) (n := 11) (b := 17) (hW.sh hW.1.1 rfl) (by decide) (by decide) (by decide) rfl k8337 rfl ?_)
          have k8338 : H 17 0 = ((33 : Nat) : Int) := (hW.2 17 _ (hW.1.2.2 1 (by decide))).2.2 0 (by decide) |> fun z => by have z1 : (33 : Int) ≤ H 17 0 ∧ H 17 0 ≤ 33 := z; omega
          refine wp_of e18 c18_19 (rw_getR (pc' := 22) (n := 2) (b := 33) (e := _) (lf_1_181).choose_spec.1 (lf_1_181).choose_spec.2.1 (hW.sh (hW.1.2.2 1 (by decide)) rfl) (by decide) rfl k8338 rfl ?_)
          refine wp_of e18 c18_22 (xc_V (pc' := 25) (r := r8316) (as := [.ref 33]) (st := []) (lm_1_185) rfl rfl (Nat.le_of_ble_eq_true rfl) hW g8318 sh_4 (by decide) rfl (by decide) (s_19 hW g8318 rfl) (fun R8339 T8340 H8341 p8342 => ?_))
          obtain ⟨e8343, e8345, z8346, e8344, b8347⟩ := p8342
          subst e8343
          subst e8344
          subst e8345
          show wp _ _ 18 25 [(1, vI 1), (0, .ref r0)] [vI z8346] _ H _
          refine wp_of e18 c18_25 (rw_if_eq (p1 := 34) (p2 := 28) (by decide) rfl ⟨by omega, by omega⟩ (fun c8348 => ?_) (fun c8348 => ?_))
          · refine wp_of e18 c18_34 (rw_iinc (pc' := 37) (z := 1) (L' := [(1, vI (1 + 1)), (0, .ref r0)]) rfl rfl rfl rfl ?_)
            refine wp_of e18 c18_37 (rw_goto (p1 := 2) (by decide) ?_)
            exact wp_lc (ks := [1, 0]) (wl_c rfl (wl_c rfl wl_n)) rfl (by decide) (ih8309 _ (by omega) (1 + 1) ⟨by omega, by omega⟩ rfl)
          · refine wp_of e18 c18_28 (rw_gs (pc' := 31) (k := 1) rfl rfl rfl rfl ?_)
            refine wp_of e18 c18_31 (rw_iload_n (pc' := 32) (z := 1) rfl rfl ?_)
            have k8350 : H 1 (1 : Int).toNat = ((17 : Nat) : Int) := (hW.2 1 _ hW.1.1).2.2 1 (by decide) |> fun z => by have z1 : (17 : Int) ≤ H 1 1 ∧ H 1 1 ≤ 17 := z; exact Int.le_antisymm z1.2 z1.1
            refine wp_of e18 c18_32 (rw_aaload (pc' := 33) (n := 11) (b := 17) (hW.sh hW.1.1 rfl) (by decide) (by decide) (by decide) rfl k8350 rfl ?_)
            exact wp_areturn e18 c18_33 rfl rfl ⟨rfl, rfl, Or.inr ⟨17, rfl, by decide, by decide⟩⟩
        · subst c8320
          have k8352 : H 1 (2 : Int).toNat = ((18 : Nat) : Int) := (hW.2 1 _ hW.1.1).2.2 2 (by decide) |> fun z => by have z1 : (18 : Int) ≤ H 1 2 ∧ H 1 2 ≤ 18 := z; exact Int.le_antisymm z1.2 z1.1
          refine wp_of e18 c18_18 (rw_aaload (pc' := 19) (n := 11) (b := 18) (hW.sh hW.1.1 rfl) (by decide) (by decide) (by decide) rfl k8352 rfl ?_)
          have k8353 : H 18 0 = ((34 : Nat) : Int) := (hW.2 18 _ (hW.1.2.2 2 (by decide))).2.2 0 (by decide) |> fun z => by have z1 : (34 : Int) ≤ H 18 0 ∧ H 18 0 ≤ 34 := z; omega
          refine wp_of e18 c18_19 (rw_getR (pc' := 22) (n := 2) (b := 34) (e := _) (lf_1_181).choose_spec.1 (lf_1_181).choose_spec.2.1 (hW.sh (hW.1.2.2 2 (by decide)) rfl) (by decide) rfl k8353 rfl ?_)
          refine wp_of e18 c18_22 (xc_V (pc' := 25) (r := r8316) (as := [.ref 34]) (st := []) (lm_1_185) rfl rfl (Nat.le_of_ble_eq_true rfl) hW g8318 sh_4 (by decide) rfl (by decide) (s_19 hW g8318 rfl) (fun R8354 T8355 H8356 p8357 => ?_))
          obtain ⟨e8358, e8360, z8361, e8359, b8362⟩ := p8357
          subst e8358
          subst e8359
          subst e8360
          show wp _ _ 18 25 [(1, vI 2), (0, .ref r0)] [vI z8361] _ H _
          refine wp_of e18 c18_25 (rw_if_eq (p1 := 34) (p2 := 28) (by decide) rfl ⟨by omega, by omega⟩ (fun c8363 => ?_) (fun c8363 => ?_))
          · refine wp_of e18 c18_34 (rw_iinc (pc' := 37) (z := 2) (L' := [(1, vI (2 + 1)), (0, .ref r0)]) rfl rfl rfl rfl ?_)
            refine wp_of e18 c18_37 (rw_goto (p1 := 2) (by decide) ?_)
            exact wp_lc (ks := [1, 0]) (wl_c rfl (wl_c rfl wl_n)) rfl (by decide) (ih8309 _ (by omega) (2 + 1) ⟨by omega, by omega⟩ rfl)
          · refine wp_of e18 c18_28 (rw_gs (pc' := 31) (k := 1) rfl rfl rfl rfl ?_)
            refine wp_of e18 c18_31 (rw_iload_n (pc' := 32) (z := 2) rfl rfl ?_)
            have k8365 : H 1 (2 : Int).toNat = ((18 : Nat) : Int) := (hW.2 1 _ hW.1.1).2.2 2 (by decide) |> fun z => by have z1 : (18 : Int) ≤ H 1 2 ∧ H 1 2 ≤ 18 := z; exact Int.le_antisymm z1.2 z1.1
            refine wp_of e18 c18_32 (rw_aaload (pc' := 33) (n := 11) (b := 18) (hW.sh hW.1.1 rfl) (by decide) (by decide) (by decide) rfl k8365 rfl ?_)
            exact wp_areturn e18 c18_33 rfl rfl ⟨rfl, rfl, Or.inr ⟨18, rfl, by decide, by decide⟩⟩
        · subst c8320
          have k8367 : H 1 (3 : Int).toNat = ((19 : Nat) : Int) := (hW.2 1 _ hW.1.1).2.2 3 (by decide) |> fun z => by have z1 : (19 : Int) ≤ H 1 3 ∧ H 1 3 ≤ 19 := z; exact Int.le_antisymm z1.2 z1.1
          refine wp_of e18 c18_18 (rw_aaload (pc' := 19) (n := 11) (b := 19) (hW.sh hW.1.1 rfl) (by decide) (by decide) (by decide) rfl k8367 rfl ?_)
          have k8368 : H 19 0 = ((35 : Nat) : Int) := (hW.2 19 _ (hW.1.2.2 3 (by decide))).2.2 0 (by decide) |> fun z => by have z1 : (35 : Int) ≤ H 19 0 ∧ H 19 0 ≤ 35 := z; omega
          refine wp_of e18 c18_19 (rw_getR (pc' := 22) (n := 2) (b := 35) (e := _) (lf_1_181).choose_spec.1 (lf_1_181).choose_spec.2.1 (hW.sh (hW.1.2.2 3 (by decide)) rfl) (by decide) rfl k8368 rfl ?_)
          refine wp_of e18 c18_22 (xc_V (pc' := 25) (r := r8316) (as := [.ref 35]) (st := []) (lm_1_185) rfl rfl (Nat.le_of_ble_eq_true rfl) hW g8318 sh_4 (by decide) rfl (by decide) (s_19 hW g8318 rfl) (fun R8369 T8370 H8371 p8372 => ?_))
          obtain ⟨e8373, e8375, z8376, e8374, b8377⟩ := p8372
          subst e8373
          subst e8374
          subst e8375
          show wp _ _ 18 25 [(1, vI 3), (0, .ref r0)] [vI z8376] _ H _
          refine wp_of e18 c18_25 (rw_if_eq (p1 := 34) (p2 := 28) (by decide) rfl ⟨by omega, by omega⟩ (fun c8378 => ?_) (fun c8378 => ?_))
          · refine wp_of e18 c18_34 (rw_iinc (pc' := 37) (z := 3) (L' := [(1, vI (3 + 1)), (0, .ref r0)]) rfl rfl rfl rfl ?_)
            refine wp_of e18 c18_37 (rw_goto (p1 := 2) (by decide) ?_)
            exact wp_lc (ks := [1, 0]) (wl_c rfl (wl_c rfl wl_n)) rfl (by decide) (ih8309 _ (by omega) (3 + 1) ⟨by omega, by omega⟩ rfl)
          · refine wp_of e18 c18_28 (rw_gs (pc' := 31) (k := 1) rfl rfl rfl rfl ?_)
            refine wp_of e18 c18_31 (rw_iload_n (pc' := 32) (z := 3) rfl rfl ?_)
            have k8380 : H 1 (3 : Int).toNat = ((19 : Nat) : Int) := (hW.2 1 _ hW.1.1).2.2 3 (by decide) |> fun z => by have z1 : (19 : Int) ≤ H 1 3 ∧ H 1 3 ≤ 19 := z; exact Int.le_antisymm z1.2 z1.1
            refine wp_of e18 c18_32 (rw_aaload (pc' := 33) (n := 11) (b := 19) (hW.sh hW.1.1 rfl) (by decide) (by decide) (by decide) rfl k8380 rfl ?_)
            exact wp_areturn e18 c18_33 rfl rfl ⟨rfl, rfl, Or.inr ⟨19, rfl, by decide, by decide⟩⟩
        · subst c8320
          have k8382 : H 1 (4 : Int).toNat = ((20 : Nat) : Int) := (hW.2 1 _ hW.1.1).2.2 4 (by decide) |> fun z => by have z1 : (20 : Int) ≤ H 1 4 ∧ H 1 4 ≤ 20 := z; exact Int.le_antisymm z1.2 z1.1
          refine wp_of e18 c18_18 (rw_aaload (pc' := 19) (n := 11) (b := 20) (hW.sh hW.1.1 rfl) (by decide) (by decide) (by decide) rfl k8382 rfl ?_)
          have k8383 : H 20 0 = ((36 : Nat) : Int) := (hW.2 20 _ (hW.1.2.2 4 (by decide))).2.2 0 (by decide) |> fun z => by have z1 : (36 : Int) ≤ H 20 0 ∧ H 20 0 ≤ 36 := z; omega
          refine wp_of e18 c18_19 (rw_getR (pc' := 22) (n := 2) (b := 36) (e := _) (lf_1_181).choose_spec.1 (lf_1_181).choose_spec.2.1 (hW.sh (hW.1.2.2 4 (by decide)) rfl) (by decide) rfl k8383 rfl ?_)
          refine wp_of e18 c18_22 (xc_V (pc' := 25) (r := r8316) (as := [.ref 36]) (st := []) (lm_1_185) rfl rfl (Nat.le_of_ble_eq_true rfl) hW g8318 sh_4 (by decide) rfl (by decide) (s_19 hW g8318 rfl) (fun R8384 T8385 H8386 p8387 => ?_))
          obtain ⟨e8388, e8390, z8391, e8389, b8392⟩ := p8387
          subst e8388
          subst e8389
          subst e8390
          show wp _ _ 18 25 [(1, vI 4), (0, .ref r0)] [vI z8391] _ H _
          refine wp_of e18 c18_25 (rw_if_eq (p1 := 34) (p2 := 28) (by decide) rfl ⟨by omega, by omega⟩ (fun c8393 => ?_) (fun c8393 => ?_))
          · refine wp_of e18 c18_34 (rw_iinc (pc' := 37) (z := 4) (L' := [(1, vI (4 + 1)), (0, .ref r0)]) rfl rfl rfl rfl ?_)
            refine wp_of e18 c18_37 (rw_goto (p1 := 2) (by decide) ?_)
            exact wp_lc (ks := [1, 0]) (wl_c rfl (wl_c rfl wl_n)) rfl (by decide) (ih8309 _ (by omega) (4 + 1) ⟨by omega, by omega⟩ rfl)
          · refine wp_of e18 c18_28 (rw_gs (pc' := 31) (k := 1) rfl rfl rfl rfl ?_)
            refine wp_of e18 c18_31 (rw_iload_n (pc' := 32) (z := 4) rfl rfl ?_)
            have k8395 : H 1 (4 : Int).toNat = ((20 : Nat) : Int) := (hW.2 1 _ hW.1.1).2.2 4 (by decide) |> fun z => by have z1 : (20 : Int) ≤ H 1 4 ∧ H 1 4 ≤ 20 := z; exact Int.le_antisymm z1.2 z1.1
            refine wp_of e18 c18_32 (rw_aaload (pc' := 33) (n := 11) (b := 20) (hW.sh hW.1.1 rfl) (by decide) (by decide) (by decide) rfl k8395 rfl ?_)
            exact wp_areturn e18 c18_33 rfl rfl ⟨rfl, rfl, Or.inr ⟨20, rfl, by decide, by decide⟩⟩
        · subst c8320
          have k8397 : H 1 (5 : Int).toNat = ((21 : Nat) : Int) := (hW.2 1 _ hW.1.1).2.2 5 (by decide) |> fun z => by have z1 : (21 : Int) ≤ H 1 5 ∧ H 1 5 ≤ 21 := z; exact Int.le_antisymm z1.2 z1.1
          refine wp_of e18 c18_18 (rw_aaload (pc' := 19) (n := 11) (b := 21) (hW.sh hW.1.1 rfl) (by decide) (by decide) (by decide) rfl k8397 rfl ?_)
          have k8398 : H 21 0 = ((37 : Nat) : Int) := (hW.2 21 _ (hW.1.2.2 5 (by decide))).2.2 0 (by decide) |> fun z => by have z1 : (37 : Int) ≤ H 21 0 ∧ H 21 0 ≤ 37 := z; omega
          refine wp_of e18 c18_19 (rw_getR (pc' := 22) (n := 2) (b := 37) (e := _) (lf_1_181).choose_spec.1 (lf_1_181).choose_spec.2.1 (hW.sh (hW.1.2.2 5 (by decide)) rfl) (by decide) rfl k8398 rfl ?_)
          refine wp_of e18 c18_22 (xc_V (pc' := 25) (r := r8316) (as := [.ref 37]) (st := []) (lm_1_185) rfl rfl (Nat.le_of_ble_eq_true rfl) hW g8318 sh_4 (by decide) rfl (by decide) (s_19 hW g8318 rfl) (fun R8399 T8400 H8401 p8402 => ?_))
          obtain ⟨e8403, e8405, z8406, e8404, b8407⟩ := p8402
          subst e8403
          subst e8404
          subst e8405
          show wp _ _ 18 25 [(1, vI 5), (0, .ref r0)] [vI z8406] _ H _
          refine wp_of e18 c18_25 (rw_if_eq (p1 := 34) (p2 := 28) (by decide) rfl ⟨by omega, by omega⟩ (fun c8408 => ?_) (fun c8408 => ?_))
          · refine wp_of e18 c18_34 (rw_iinc (pc' := 37) (z := 5) (L' := [(1, vI (5 + 1)), (0, .ref r0)]) rfl rfl rfl rfl ?_)
            refine wp_of e18 c18_37 (rw_goto (p1 := 2) (by decide) ?_)
            exact wp_lc (ks := [1, 0]) (wl_c rfl (wl_c rfl wl_n)) rfl (by decide) (ih8309 _ (by omega) (5 + 1) ⟨by omega, by omega⟩ rfl)
          · refine wp_of e18 c18_28 (rw_gs (pc' := 31) (k := 1) rfl rfl rfl rfl ?_)
            refine wp_of e18 c18_31 (rw_iload_n (pc' := 32) (z := 5) rfl rfl ?_)
            have k8410 : H 1 (5 : Int).toNat = ((21 : Nat) : Int) := (hW.2 1 _ hW.1.1).2.2 5 (by decide) |> fun z => by have z1 : (21 : Int) ≤ H 1 5 ∧ H 1 5 ≤ 21 := z; exact Int.le_antisymm z1.2 z1.1
            refine wp_of e18 c18_32 (rw_aaload (pc' := 33) (n := 11) (b := 21) (hW.sh hW.1.1 rfl) (by decide) (by decide) (by decide) rfl k8410 rfl ?_)
            exact wp_areturn e18 c18_33 rfl rfl ⟨rfl, rfl, Or.inr ⟨21, rfl, by decide, by decide⟩⟩
        · subst c8320
          have k8412 : H 1 (6 : Int).toNat = ((22 : Nat) : Int) := (hW.2 1 _ hW.1.1).2.2 6 (by decide) |> fun z => by have z1 : (22 : Int) ≤ H 1 6 ∧ H 1 6 ≤ 22 := z; exact Int.le_antisymm z1.2 z1.1
          refine wp_of e18 c18_18 (rw_aaload (pc' := 19) (n := 11) (b := 22) (hW.sh hW.1.1 rfl) (by decide) (by decide) (by decide) rfl k8412 rfl ?_)
          have k8413 : H 22 0 = ((38 : Nat) : Int) := (hW.2 22 _ (hW.1.2.2 6 (by decide))).2.2 0 (by decide) |> fun z => by have z1 : (38 : Int) ≤ H 22 0 ∧ H 22 0 ≤ 38 := z; omega
          refine wp_of e18 c18_19 (rw_getR (pc' := 22) (n := 2) (b := 38) (e := _) (lf_1_181).choose_spec.1 (lf_1_181).choose_spec.2.1 (hW.sh (hW.1.2.2 6 (by decide)) rfl) (by decide) rfl k8413 rfl ?_)
          refine wp_of e18 c18_22 (xc_V (pc' := 25) (r := r8316) (as := [.ref 38]) (st := []) (lm_1_185) rfl rfl (Nat.le_of_ble_eq_true rfl) hW g8318 sh_4 (by decide) rfl (by decide) (s_19 hW g8318 rfl) (fun R8414 T8415 H8416 p8417 => ?_))
          obtain ⟨e8418, e8420, z8421, e8419, b8422⟩ := p8417
          subst e8418
          subst e8419
          subst e8420
          show wp _ _ 18 25 [(1, vI 6), (0, .ref r0)] [vI z8421] _ H _
          refine wp_of e18 c18_25 (rw_if_eq (p1 := 34) (p2 := 28) (by decide) rfl ⟨by omega, by omega⟩ (fun c8423 => ?_) (fun c8423 => ?_))
          · refine wp_of e18 c18_34 (rw_iinc (pc' := 37) (z := 6) (L' := [(1, vI (6 + 1)), (0, .ref r0)]) rfl rfl rfl rfl ?_)
            refine wp_of e18 c18_37 (rw_goto (p1 := 2) (by decide) ?_)
            exact wp_lc (ks := [1, 0]) (wl_c rfl (wl_c rfl wl_n)) rfl (by decide) (ih8309 _ (by omega) (6 + 1) ⟨by omega, by omega⟩ rfl)
          · refine wp_of e18 c18_28 (rw_gs (pc' := 31) (k := 1) rfl rfl rfl rfl ?_)
            refine wp_of e18 c18_31 (rw_iload_n (pc' := 32) (z := 6) rfl rfl ?_)
            have k8425 : H 1 (6 : Int).toNat = ((22 : Nat) : Int) := (hW.2 1 _ hW.1.1).2.2 6 (by decide) |> fun z => by have z1 : (22 : Int) ≤ H 1 6 ∧ H 1 6 ≤ 22 := z; exact Int.le_antisymm z1.2 z1.1
            refine wp_of e18 c18_32 (rw_aaload (pc' := 33) (n := 11) (b := 22) (hW.sh hW.1.1 rfl) (by decide) (by decide) (by decide) rfl k8425 rfl ?_)
            exact wp_areturn e18 c18_33 rfl rfl ⟨rfl, rfl, Or.inr ⟨22, rfl, by decide, by decide⟩⟩
        · subst c8320
          have k8427 : H 1 (7 : Int).toNat = ((23 : Nat) : Int) := (hW.2 1 _ hW.1.1).2.2 7 (by decide) |> fun z => by have z1 : (23 : Int) ≤ H 1 7 ∧ H 1 7 ≤ 23 := z; exact Int.le_antisymm z1.2 z1.1
          refine wp_of e18 c18_18 (rw_aaload (pc' := 19) (n := 11) (b := 23) (hW.sh hW.1.1 rfl) (by decide) (by decide) (by decide) rfl k8427 rfl ?_)
          have k8428 : H 23 0 = ((39 : Nat) : Int) := (hW.2 23 _ (hW.1.2.2 7 (by decide))).2.2 0 (by decide) |> fun z => by have z1 : (39 : Int) ≤ H 23 0 ∧ H 23 0 ≤ 39 := z; omega
          refine wp_of e18 c18_19 (rw_getR (pc' := 22) (n := 2) (b := 39) (e := _) (lf_1_181).choose_spec.1 (lf_1_181).choose_spec.2.1 (hW.sh (hW.1.2.2 7 (by decide)) rfl) (by decide) rfl k8428 rfl ?_)
          refine wp_of e18 c18_22 (xc_V (pc' := 25) (r := r8316) (as := [.ref 39]) (st := []) (lm_1_185) rfl rfl (Nat.le_of_ble_eq_true rfl) hW g8318 sh_4 (by decide) rfl (by decide) (s_19 hW g8318 rfl) (fun R8429 T8430 H8431 p8432 => ?_))
          obtain ⟨e8433, e8435, z8436, e8434, b8437⟩ := p8432
          subst e8433
          subst e8434
          subst e8435
          show wp _ _ 18 25 [(1, vI 7), (0, .ref r0)] [vI z8436] _ H _
          refine wp_of e18 c18_25 (rw_if_eq (p1 := 34) (p2 := 28) (by decide) rfl ⟨by omega, by omega⟩ (fun c8438 => ?_) (fun c8438 => ?_))
          · refine wp_of e18 c18_34 (rw_iinc (pc' := 37) (z := 7) (L' := [(1, vI (7 + 1)), (0, .ref r0)]) rfl rfl rfl rfl ?_)
            refine wp_of e18 c18_37 (rw_goto (p1 := 2) (by decide) ?_)
            exact wp_lc (ks := [1, 0]) (wl_c rfl (wl_c rfl wl_n)) rfl (by decide) (ih8309 _ (by omega) (7 + 1) ⟨by omega, by omega⟩ rfl)
          · refine wp_of e18 c18_28 (rw_gs (pc' := 31) (k := 1) rfl rfl rfl rfl ?_)
            refine wp_of e18 c18_31 (rw_iload_n (pc' := 32) (z := 7) rfl rfl ?_)
            have k8440 : H 1 (7 : Int).toNat = ((23 : Nat) : Int) := (hW.2 1 _ hW.1.1).2.2 7 (by decide) |> fun z => by have z1 : (23 : Int) ≤ H 1 7 ∧ H 1 7 ≤ 23 := z; exact Int.le_antisymm z1.2 z1.1
            refine wp_of e18 c18_32 (rw_aaload (pc' := 33) (n := 11) (b := 23) (hW.sh hW.1.1 rfl) (by decide) (by decide) (by decide) rfl k8440 rfl ?_)
            exact wp_areturn e18 c18_33 rfl rfl ⟨rfl, rfl, Or.inr ⟨23, rfl, by decide, by decide⟩⟩
        · subst c8320
          have k8442 : H 1 (8 : Int).toNat = ((24 : Nat) : Int) := (hW.2 1 _ hW.1.1).2.2 8 (by decide) |> fun z => by have z1 : (24 : Int) ≤ H 1 8 ∧ H 1 8 ≤ 24 := z; exact Int.le_antisymm z1.2 z1.1
          refine wp_of e18 c18_18 (rw_aaload (pc' := 19) (n := 11) (b := 24) (hW.sh hW.1.1 rfl) (by decide) (by decide) (by decide) rfl k8442 rfl ?_)
          have k8443 : H 24 0 = ((40 : Nat) : Int) := (hW.2 24 _ (hW.1.2.2 8 (by decide))).2.2 0 (by decide) |> fun z => by have z1 : (40 : Int) ≤ H 24 0 ∧ H 24 0 ≤ 40 := z; omega
          refine wp_of e18 c18_19 (rw_getR (pc' := 22) (n := 2) (b := 40) (e := _) (lf_1_181).choose_spec.1 (lf_1_181).choose_spec.2.1 (hW.sh (hW.1.2.2 8 (by decide)) rfl) (by decide) rfl k8443 rfl ?_)
          refine wp_of e18 c18_22 (xc_V (pc' := 25) (r := r8316) (as := [.ref 40]) (st := []) (lm_1_185) rfl rfl (Nat.le_of_ble_eq_true rfl) hW g8318 sh_4 (by decide) rfl (by decide) (s_19 hW g8318 rfl) (fun R8444 T8445 H8446 p8447 => ?_))
          obtain ⟨e8448, e8450, z8451, e8449, b8452⟩ := p8447
          subst e8448
          subst e8449
          subst e8450
          show wp _ _ 18 25 [(1, vI 8), (0, .ref r0)] [vI z8451] _ H _
          refine wp_of e18 c18_25 (rw_if_eq (p1 := 34) (p2 := 28) (by decide) rfl ⟨by omega, by omega⟩ (fun c8453 => ?_) (fun c8453 => ?_))
          · refine wp_of e18 c18_34 (rw_iinc (pc' := 37) (z := 8) (L' := [(1, vI (8 + 1)), (0, .ref r0)]) rfl rfl rfl rfl ?_)
            refine wp_of e18 c18_37 (rw_goto (p1 := 2) (by decide) ?_)
            exact wp_lc (ks := [1, 0]) (wl_c rfl (wl_c rfl wl_n)) rfl (by decide) (ih8309 _ (by omega) (8 + 1) ⟨by omega, by omega⟩ rfl)
          · refine wp_of e18 c18_28 (rw_gs (pc' := 31) (k := 1) rfl rfl rfl rfl ?_)
            refine wp_of e18 c18_31 (rw_iload_n (pc' := 32) (z := 8) rfl rfl ?_)
            have k8455 : H 1 (8 : Int).toNat = ((24 : Nat) : Int) := (hW.2 1 _ hW.1.1).2.2 8 (by decide) |> fun z => by have z1 : (24 : Int) ≤ H 1 8 ∧ H 1 8 ≤ 24 := z; exact Int.le_antisymm z1.2 z1.1
            refine wp_of e18 c18_32 (rw_aaload (pc' := 33) (n := 11) (b := 24) (hW.sh hW.1.1 rfl) (by decide) (by decide) (by decide) rfl k8455 rfl ?_)
            exact wp_areturn e18 c18_33 rfl rfl ⟨rfl, rfl, Or.inr ⟨24, rfl, by decide, by decide⟩⟩
        · subst c8320
          have k8457 : H 1 (9 : Int).toNat = ((25 : Nat) : Int) := (hW.2 1 _ hW.1.1).2.2 9 (by decide) |> fun z => by have z1 : (25 : Int) ≤ H 1 9 ∧ H 1 9 ≤ 25 := z; exact Int.le_antisymm z1.2 z1.1
          refine wp_of e18 c18_18 (rw_aaload (pc' := 19) (n := 11) (b := 25) (hW.sh hW.1.1 rfl) (by decide) (by decide) (by decide) rfl k8457 rfl ?_)
          have k8458 : H 25 0 = ((41 : Nat) : Int) := (hW.2 25 _ (hW.1.2.2 9 (by decide))).2.2 0 (by decide) |> fun z => by have z1 : (41 : Int) ≤ H 25 0 ∧ H 25 0 ≤ 41 := z; omega
          refine wp_of e18 c18_19 (rw_getR (pc' := 22) (n := 2) (b := 41) (e := _) (lf_1_181).choose_spec.1 (lf_1_181).choose_spec.2.1 (hW.sh (hW.1.2.2 9 (by decide)) rfl) (by decide) rfl k8458 rfl ?_)
          refine wp_of e18 c18_22 (xc_V (pc' := 25) (r := r8316) (as := [.ref 41]) (st := []) (lm_1_185) rfl rfl (Nat.le_of_ble_eq_true rfl) hW g8318 sh_4 (by decide) rfl (by decide) (s_19 hW g8318 rfl) (fun R8459 T8460 H8461 p8462 => ?_))
          obtain ⟨e8463, e8465, z8466, e8464, b8467⟩ := p8462
          subst e8463
          subst e8464
          subst e8465
          show wp _ _ 18 25 [(1, vI 9), (0, .ref r0)] [vI z8466] _ H _
          refine wp_of e18 c18_25 (rw_if_eq (p1 := 34) (p2 := 28) (by decide) rfl ⟨by omega, by omega⟩ (fun c8468 => ?_) (fun c8468 => ?_))
          · refine wp_of e18 c18_34 (rw_iinc (pc' := 37) (z := 9) (L' := [(1, vI (9 + 1)), (0, .ref r0)]) rfl rfl rfl rfl ?_)
            refine wp_of e18 c18_37 (rw_goto (p1 := 2) (by decide) ?_)
            exact wp_lc (ks := [1, 0]) (wl_c rfl (wl_c rfl wl_n)) rfl (by decide) (ih8309 _ (by omega) (9 + 1) ⟨by omega, by omega⟩ rfl)
          · refine wp_of e18 c18_28 (rw_gs (pc' := 31) (k := 1) rfl rfl rfl rfl ?_)
            refine wp_of e18 c18_31 (rw_iload_n (pc' := 32) (z := 9) rfl rfl ?_)
            have k8470 : H 1 (9 : Int).toNat = ((25 : Nat) : Int) := (hW.2 1 _ hW.1.1).2.2 9 (by decide) |> fun z => by have z1 : (25 : Int) ≤ H 1 9 ∧ H 1 9 ≤ 25 := z; exact Int.le_antisymm z1.2 z1.1
            refine wp_of e18 c18_32 (rw_aaload (pc' := 33) (n := 11) (b := 25) (hW.sh hW.1.1 rfl) (by decide) (by decide) (by decide) rfl k8470 rfl ?_)
            exact wp_areturn e18 c18_33 rfl rfl ⟨rfl, rfl, Or.inr ⟨25, rfl, by decide, by decide⟩⟩
        · subst c8320
          have k8472 : H 1 (10 : Int).toNat = ((26 : Nat) : Int) := (hW.2 1 _ hW.1.1).2.2 10 (by decide) |> fun z => by have z1 : (26 : Int) ≤ H 1 10 ∧ H 1 10 ≤ 26 := z; exact Int.le_antisymm z1.2 z1.1
          refine wp_of e18 c18_18 (rw_aaload (pc' := 19) (n := 11) (b := 26) (hW.sh hW.1.1 rfl) (by decide) (by decide) (by decide) rfl k8472 rfl ?_)
          have k8473 : H 26 0 = ((42 : Nat) : Int) := (hW.2 26 _ (hW.1.2.2 10 (by decide))).2.2 0 (by decide) |> fun z => by have z1 : (42 : Int) ≤ H 26 0 ∧ H 26 0 ≤ 42 := z; omega
          refine wp_of e18 c18_19 (rw_getR (pc' := 22) (n := 2) (b := 42) (e := _) (lf_1_181).choose_spec.1 (lf_1_181).choose_spec.2.1 (hW.sh (hW.1.2.2 10 (by decide)) rfl) (by decide) rfl k8473 rfl ?_)
          refine wp_of e18 c18_22 (xc_V (pc' := 25) (r := r8316) (as := [.ref 42]) (st := []) (lm_1_185) rfl rfl (Nat.le_of_ble_eq_true rfl) hW g8318 sh_4 (by decide) rfl (by decide) (s_19 hW g8318 rfl) (fun R8474 T8475 H8476 p8477 => ?_))
          obtain ⟨e8478, e8480, z8481, e8479, b8482⟩ := p8477
          subst e8478
          subst e8479
          subst e8480
          show wp _ _ 18 25 [(1, vI 10), (0, .ref r0)] [vI z8481] _ H _
          refine wp_of e18 c18_25 (rw_if_eq (p1 := 34) (p2 := 28) (by decide) rfl ⟨by omega, by omega⟩ (fun c8483 => ?_) (fun c8483 => ?_))
          · refine wp_of e18 c18_34 (rw_iinc (pc' := 37) (z := 10) (L' := [(1, vI (10 + 1)), (0, .ref r0)]) rfl rfl rfl rfl ?_)
            refine wp_of e18 c18_37 (rw_goto (p1 := 2) (by decide) ?_)
            exact wp_lc (ks := [1, 0]) (wl_c rfl (wl_c rfl wl_n)) rfl (by decide) (ih8309 _ (by omega) (10 + 1) ⟨by omega, by omega⟩ rfl)
          · refine wp_of e18 c18_28 (rw_gs (pc' := 31) (k := 1) rfl rfl rfl rfl ?_)
            refine wp_of e18 c18_31 (rw_iload_n (pc' := 32) (z := 10) rfl rfl ?_)
            have k8485 : H 1 (10 : Int).toNat = ((26 : Nat) : Int) := (hW.2 1 _ hW.1.1).2.2 10 (by decide) |> fun z => by have z1 : (26 : Int) ≤ H 1 10 ∧ H 1 10 ≤ 26 := z; exact Int.le_antisymm z1.2 z1.1
            refine wp_of e18 c18_32 (rw_aaload (pc' := 33) (n := 11) (b := 26) (hW.sh hW.1.1 rfl) (by decide) (by decide) (by decide) rfl k8485 rfl ?_)
            exact wp_areturn e18 c18_33 rfl rfl ⟨rfl, rfl, Or.inr ⟨26, rfl, by decide, by decide⟩⟩
  exact wp_lc (ks := [1, 0]) (wl_c rfl (wl_c rfl wl_n)) rfl (by decide) (lp8307 _ 0 ⟨by omega, by omega⟩ rfl)
/-! StrikeAwake$Reader.fail(I)Z -/
theorem e20 : wq_en 20 = some (1, 2, false, some FieldType.boolean) := rfl
theorem c20_0 : mc_cd 20 0 = some (.aload_n 0, 1) := by decide +kernel
theorem c20_1 : mc_cd 20 1 = some (.iload_n 1, 1) := by decide +kernel
theorem c20_2 : mc_cd 20 2 = some (.putfield 18, 3) := by decide +kernel
theorem c20_5 : mc_cd 20 5 = some (.aload_n 0, 1) := by decide +kernel
theorem c20_6 : mc_cd 20 6 = some (.aload_n 0, 1) := by decide +kernel
theorem c20_7 : mc_cd 20 7 = some (.getfield 12, 3) := by decide +kernel
theorem c20_10 : mc_cd 20 10 = some (.getfield 257, 3) := by decide +kernel
theorem c20_13 : mc_cd 20 13 = some (.putfield 22, 3) := by decide +kernel
theorem c20_16 : mc_cd 20 16 = some (.iconst 0, 1) := by decide +kernel
theorem c20_17 : mc_cd 20 17 = some (.ireturn, 1) := by decide +kernel
abbrev q_20 (r0 : Nat) (a1 : Int) (T : wq_T) (H : wq_H) : Option Value → wq_T → wq_H → Prop := fun r T' H' => T = T' ∧ WT T H' ∧ wfr [(3, 3), (3, 4)] T H H' ∧ ∃ z : Int, some (vI z) = r ∧ (0 ≤ z ∧ z ≤ 1)
set_option maxHeartbeats 4000000 in
theorem s_20 {kt : Nat → Option mc_E} {T : wq_T} {H : wq_H} {r0 : Nat} {a1 : Int} (hW : WT T H) (g0 : T.2.2.2 r0 = some 3) (i1 : (-2147483648) ≤ a1 ∧ a1 ≤ 2147483647) : wpc kt 1 20 [.ref r0, vI a1] T H (q_20 r0 a1 T H) := by
  refine wp_enter e20 (Nat.le_of_ble_eq_true rfl) rfl ?_
  have f0 : wfr [(3, 3), (3, 4)] T H H := wfr.rf
  show wp _ _ 20 0 [(0, .ref r0), (1, vI a1)] [] _ H _
  refine wp_of e20 c20_0 (rw_aload_n (pc' := 1) (v := .ref r0) rfl rfl rfl ?_)
  refine wp_of e20 c20_1 (rw_iload_n (pc' := 2) (z := a1) rfl rfl ?_)
  refine wp_of e20 c20_2 (xp_I (pc' := 5) lf_1_18 hW g0 sh_3 (by decide) (by decide) ty_3_3 rfl rfl (by omega) (by omega) ⟨by omega, by omega⟩ rfl (fun H8501 e8502 w8503 => ?_))
  have f8504 := f0.put' e8502 g0 rfl
  have k8505 : H8501 r0 3 = a1 := wq_u_s e8502
  refine wp_of e20 c20_5 (rw_aload_n (pc' := 6) (v := .ref r0) rfl rfl rfl ?_)
  refine wp_of e20 c20_6 (rw_aload_n (pc' := 7) (v := .ref r0) rfl rfl rfl ?_)
  refine wp_of e20 c20_7 (xg_R (pc' := 10) lf_1_12 w8503 g0 sh_3 (by decide) (by decide) ty_3_0 rfl rfl (fun r8506 q8507 g8508 => ?_))
  refine wp_of e20 c20_10 (xg_I (pc' := 13) lf_1_257 w8503 g8508 sh_4 (by decide) (by decide) ty_4_4 rfl rfl (fun b8509 b8510 => ?_))
  refine wp_of e20 c20_13 (xp_I (pc' := 16) lf_1_22 w8503 g0 sh_3 (by decide) (by decide) ty_3_4 rfl rfl (by omega) (by omega) ⟨by omega, by omega⟩ rfl (fun H8511 e8512 w8513 => ?_))
  have f8514 := f8504.put' e8512 g0 rfl
  have k8515 : H8511 r0 4 = H8501 r8506 4 := wq_u_s e8512
  refine wp_of e20 c20_16 (rw_iconst (pc' := 17) rfl ?_)
  exact wp_zreturn e20 c20_17 rfl (by omega) ⟨rfl, w8513, f8514, 0, rfl, ⟨by omega, by omega⟩⟩
/-! StrikeAwake$Parish.linesOf(LStrikeAwake$Reserved;)I -/
theorem e21 : wq_en 21 = some (7, 2, false, some FieldType.int) := rfl
theorem c21_0 : mc_cd 21 0 = some (.getstatic 75, 3) := by decide +kernel
theorem c21_3 : mc_cd 21 3 = some (.aload_n 1, 1) := by decide +kernel
theorem c21_4 : mc_cd 21 4 = some (.invokevirtual 80, 3) := by decide +kernel
theorem c21_7 : mc_cd 21 7 = some (.iaload, 1) := by decide +kernel
theorem c21_8 : mc_cd 21 8 = some (.tableswitch 104 1 8 #[48, 61, 66, 79, 84, 89, 94, 99], 48) := by decide +kernel
theorem c21_56 : mc_cd 21 56 = some (.aload_n 0, 1) := by decide +kernel
theorem c21_57 : mc_cd 21 57 = some (.getfield 41, 3) := by decide +kernel
theorem c21_60 : mc_cd 21 60 = some (.ifCond .le 7, 3) := by decide +kernel
theorem c21_63 : mc_cd 21 63 = some (.iconst 1, 1) := by decide +kernel
theorem c21_64 : mc_cd 21 64 = some (.goto 4, 3) := by decide +kernel
theorem c21_67 : mc_cd 21 67 = some (.iconst 0, 1) := by decide +kernel
theorem c21_68 : mc_cd 21 68 = some (.ireturn, 1) := by decide +kernel
theorem c21_69 : mc_cd 21 69 = some (.aload_n 0, 1) := by decide +kernel
theorem c21_70 : mc_cd 21 70 = some (.getfield 50, 3) := by decide +kernel
theorem c21_73 : mc_cd 21 73 = some (.ireturn, 1) := by decide +kernel
theorem c21_74 : mc_cd 21 74 = some (.aload_n 0, 1) := by decide +kernel
theorem c21_75 : mc_cd 21 75 = some (.getfield 37, 3) := by decide +kernel
theorem c21_78 : mc_cd 21 78 = some (.ifCond .lt 7, 3) := by decide +kernel
theorem c21_81 : mc_cd 21 81 = some (.iconst 1, 1) := by decide +kernel
theorem c21_82 : mc_cd 21 82 = some (.goto 4, 3) := by decide +kernel
theorem c21_85 : mc_cd 21 85 = some (.iconst 0, 1) := by decide +kernel
theorem c21_86 : mc_cd 21 86 = some (.ireturn, 1) := by decide +kernel
theorem c21_87 : mc_cd 21 87 = some (.aload_n 0, 1) := by decide +kernel
theorem c21_88 : mc_cd 21 88 = some (.getfield 53, 3) := by decide +kernel
theorem c21_91 : mc_cd 21 91 = some (.ireturn, 1) := by decide +kernel
theorem c21_92 : mc_cd 21 92 = some (.aload_n 0, 1) := by decide +kernel
theorem c21_93 : mc_cd 21 93 = some (.getfield 56, 3) := by decide +kernel
theorem c21_96 : mc_cd 21 96 = some (.ireturn, 1) := by decide +kernel
theorem c21_97 : mc_cd 21 97 = some (.aload_n 0, 1) := by decide +kernel
theorem c21_98 : mc_cd 21 98 = some (.getfield 65, 3) := by decide +kernel
theorem c21_101 : mc_cd 21 101 = some (.ireturn, 1) := by decide +kernel
theorem c21_102 : mc_cd 21 102 = some (.aload_n 0, 1) := by decide +kernel
theorem c21_103 : mc_cd 21 103 = some (.getfield 59, 3) := by decide +kernel
theorem c21_106 : mc_cd 21 106 = some (.ireturn, 1) := by decide +kernel
theorem c21_107 : mc_cd 21 107 = some (.aload_n 0, 1) := by decide +kernel
theorem c21_108 : mc_cd 21 108 = some (.getfield 62, 3) := by decide +kernel
theorem c21_111 : mc_cd 21 111 = some (.ireturn, 1) := by decide +kernel
theorem c21_112 : mc_cd 21 112 = some (.iconst 0, 1) := by decide +kernel
theorem c21_113 : mc_cd 21 113 = some (.ireturn, 1) := by decide +kernel
abbrev q_21_16 (r0 : Nat) (T : wq_T) (H : wq_H) : Option Value → wq_T → wq_H → Prop := fun r T' H' => T = T' ∧ H = H' ∧ ∃ z : Int, some (vI z) = r ∧ ((-2147483648) ≤ z ∧ z ≤ 2147483647) ∧ (0 ≤ z ∧ z ≤ 1)
set_option maxHeartbeats 4000000 in
theorem s_21_16 {kt : Nat → Option mc_E} {T : wq_T} {H : wq_H} {r0 : Nat} (hW : WT T H) (g0 : T.2.2.2 r0 = some 27) : wpc kt 1 21 [.ref r0, .ref 16] T H (q_21_16 r0 T H) := by
  refine wp_enter e21 (Nat.le_of_ble_eq_true rfl) rfl ?_
  show wp _ _ 21 0 [(0, .ref r0), (1, .ref 16)] [] _ H _
  refine wp_of e21 c21_0 (rw_gs (pc' := 3) (k := 2) rfl rfl rfl rfl ?_)
  refine wp_of e21 c21_3 (rw_aload_n (pc' := 4) (v := .ref 16) rfl rfl rfl ?_)
  refine wp_of e21 c21_4 (rw_ord (pc' := 7) rfl rfl rfl (by decide) (Nat.le_of_ble_eq_true rfl) rfl ?_)
  show wp _ _ 21 7 [(0, .ref r0), (1, .ref 16)] [vI 0, .ref 2] _ H _
  have k8521 : H 2 (0 : Int).toNat = 1 := (hW.2 2 _ hW.1.2.1).2.2 0 (by decide) |> fun z => by have z1 : (1 : Int) ≤ H 2 0 ∧ H 2 0 ≤ 1 := z; exact Int.le_antisymm z1.2 z1.1
  refine wp_of e21 c21_7 (rw_iaload (pc' := 8) (n := 11) (hW.sh hW.1.2.1 rfl) (by decide) (by decide) (by decide) rfl rfl ?_)
  rw [k8521]
  have c8522 : 1 = 1 := by omega
  refine wp_of e21 c21_8 (rw_tsw (p1 := 56) ⟨by omega, by omega⟩ (by rw [c8522]; decide) ?_)
  refine wp_of e21 c21_56 (rw_aload_n (pc' := 57) (v := .ref r0) rfl rfl rfl ?_)
  refine wp_of e21 c21_57 (xg_I (pc' := 60) lf_7_41 hW g0 sh_27 (by decide) (by decide) ty_27_7 rfl rfl (fun b8523 b8524 => ?_))
  refine wp_of e21 c21_60 (rw_if_le (p1 := 67) (p2 := 63) (by decide) rfl ⟨by omega, by omega⟩ (fun c8525 => ?_) (fun c8525 => ?_))
  · refine wp_of e21 c21_67 (rw_iconst (pc' := 68) rfl ?_)
    exact wp_ireturn e21 c21_68 rfl ⟨rfl, rfl, 0, rfl, ⟨by omega, by omega⟩, by omega⟩
  · refine wp_of e21 c21_63 (rw_iconst (pc' := 64) rfl ?_)
    refine wp_of e21 c21_64 (rw_goto (p1 := 68) (by decide) ?_)
    exact wp_ireturn e21 c21_68 rfl ⟨rfl, rfl, 1, rfl, ⟨by omega, by omega⟩, by omega⟩

/-! StrikeAwake$Parish.linesOf(LStrikeAwake$Reserved;)I -/
abbrev q_21_17 (r0 : Nat) (T : wq_T) (H : wq_H) : Option Value → wq_T → wq_H → Prop := fun r T' H' => T = T' ∧ H = H' ∧ ∃ z : Int, some (vI z) = r ∧ ((-2147483648) ≤ z ∧ z ≤ 2147483647) ∧ (z = H r0 10)
set_option maxHeartbeats 4000000 in
theorem s_21_17 {kt : Nat → Option mc_E} {T : wq_T} {H : wq_H} {r0 : Nat} (hW : WT T H) (g0 : T.2.2.2 r0 = some 27) : wpc kt 1 21 [.ref r0, .ref 17] T H (q_21_17 r0 T H) := by
  refine wp_enter e21 (Nat.le_of_ble_eq_true rfl) rfl ?_
  show wp _ _ 21 0 [(0, .ref r0), (1, .ref 17)] [] _ H _
  refine wp_of e21 c21_0 (rw_gs (pc' := 3) (k := 2) rfl rfl rfl rfl ?_)
  refine wp_of e21 c21_3 (rw_aload_n (pc' := 4) (v := .ref 17) rfl rfl rfl ?_)
  refine wp_of e21 c21_4 (rw_ord (pc' := 7) rfl rfl rfl (by decide) (Nat.le_of_ble_eq_true rfl) rfl ?_)
  show wp _ _ 21 7 [(0, .ref r0), (1, .ref 17)] [vI 1, .ref 2] _ H _
  have k8530 : H 2 (1 : Int).toNat = 2 := (hW.2 2 _ hW.1.2.1).2.2 1 (by decide) |> fun z => by have z1 : (2 : Int) ≤ H 2 1 ∧ H 2 1 ≤ 2 := z; exact Int.le_antisymm z1.2 z1.1
  refine wp_of e21 c21_7 (rw_iaload (pc' := 8) (n := 11) (hW.sh hW.1.2.1 rfl) (by decide) (by decide) (by decide) rfl rfl ?_)
  rw [k8530]
  have c8531 : 2 = 2 := by omega
  refine wp_of e21 c21_8 (rw_tsw (p1 := 69) ⟨by omega, by omega⟩ (by rw [c8531]; decide) ?_)
  refine wp_of e21 c21_69 (rw_aload_n (pc' := 70) (v := .ref r0) rfl rfl rfl ?_)
  refine wp_of e21 c21_70 (xg_I (pc' := 73) lf_7_50 hW g0 sh_27 (by decide) (by decide) ty_27_10 rfl rfl (fun b8532 b8533 => ?_))
  exact wp_ireturn e21 c21_73 rfl ⟨rfl, rfl, H r0 10, rfl, ⟨by omega, by omega⟩, by omega⟩

/-! StrikeAwake$Parish.linesOf(LStrikeAwake$Reserved;)I -/
abbrev q_21_18 (r0 : Nat) (T : wq_T) (H : wq_H) : Option Value → wq_T → wq_H → Prop := fun r T' H' => T = T' ∧ H = H' ∧ ∃ z : Int, some (vI z) = r ∧ ((-2147483648) ≤ z ∧ z ≤ 2147483647) ∧ (0 ≤ z ∧ z ≤ 1)
set_option maxHeartbeats 4000000 in
theorem s_21_18 {kt : Nat → Option mc_E} {T : wq_T} {H : wq_H} {r0 : Nat} (hW : WT T H) (g0 : T.2.2.2 r0 = some 27) : wpc kt 1 21 [.ref r0, .ref 18] T H (q_21_18 r0 T H) := by
  refine wp_enter e21 (Nat.le_of_ble_eq_true rfl) rfl ?_
  show wp _ _ 21 0 [(0, .ref r0), (1, .ref 18)] [] _ H _
  refine wp_of e21 c21_0 (rw_gs (pc' := 3) (k := 2) rfl rfl rfl rfl ?_)
  refine wp_of e21 c21_3 (rw_aload_n (pc' := 4) (v := .ref 18) rfl rfl rfl ?_)
  refine wp_of e21 c21_4 (rw_ord (pc' := 7) rfl rfl rfl (by decide) (Nat.le_of_ble_eq_true rfl) rfl ?_)
  show wp _ _ 21 7 [(0, .ref r0), (1, .ref 18)] [vI 2, .ref 2] _ H _
  have k8539 : H 2 (2 : Int).toNat = 3 := (hW.2 2 _ hW.1.2.1).2.2 2 (by decide) |> fun z => by have z1 : (3 : Int) ≤ H 2 2 ∧ H 2 2 ≤ 3 := z; exact Int.le_antisymm z1.2 z1.1
  refine wp_of e21 c21_7 (rw_iaload (pc' := 8) (n := 11) (hW.sh hW.1.2.1 rfl) (by decide) (by decide) (by decide) rfl rfl ?_)
  rw [k8539]
  have c8540 : 3 = 3 := by omega
  refine wp_of e21 c21_8 (rw_tsw (p1 := 74) ⟨by omega, by omega⟩ (by rw [c8540]; decide) ?_)
  refine wp_of e21 c21_74 (rw_aload_n (pc' := 75) (v := .ref r0) rfl rfl rfl ?_)
  refine wp_of e21 c21_75 (xg_I (pc' := 78) lf_7_37 hW g0 sh_27 (by decide) (by decide) ty_27_15 rfl rfl (fun b8541 b8542 => ?_))
  refine wp_of e21 c21_78 (rw_if_lt (p1 := 85) (p2 := 81) (by decide) rfl ⟨by omega, by omega⟩ (fun c8543 => ?_) (fun c8543 => ?_))
  · refine wp_of e21 c21_85 (rw_iconst (pc' := 86) rfl ?_)
    exact wp_ireturn e21 c21_86 rfl ⟨rfl, rfl, 0, rfl, ⟨by omega, by omega⟩, by omega⟩
  · refine wp_of e21 c21_81 (rw_iconst (pc' := 82) rfl ?_)
    refine wp_of e21 c21_82 (rw_goto (p1 := 86) (by decide) ?_)
    exact wp_ireturn e21 c21_86 rfl ⟨rfl, rfl, 1, rfl, ⟨by omega, by omega⟩, by omega⟩

/-! StrikeAwake$Parish.linesOf(LStrikeAwake$Reserved;)I -/
abbrev q_21_19 (r0 : Nat) (T : wq_T) (H : wq_H) : Option Value → wq_T → wq_H → Prop := fun r T' H' => T = T' ∧ H = H' ∧ ∃ z : Int, some (vI z) = r ∧ ((-2147483648) ≤ z ∧ z ≤ 2147483647)
set_option maxHeartbeats 4000000 in
theorem s_21_19 {kt : Nat → Option mc_E} {T : wq_T} {H : wq_H} {r0 : Nat} (hW : WT T H) (g0 : T.2.2.2 r0 = some 27) : wpc kt 1 21 [.ref r0, .ref 19] T H (q_21_19 r0 T H) := by
  refine wp_enter e21 (Nat.le_of_ble_eq_true rfl) rfl ?_
  show wp _ _ 21 0 [(0, .ref r0), (1, .ref 19)] [] _ H _
  refine wp_of e21 c21_0 (rw_gs (pc' := 3) (k := 2) rfl rfl rfl rfl ?_)
  refine wp_of e21 c21_3 (rw_aload_n (pc' := 4) (v := .ref 19) rfl rfl rfl ?_)
  refine wp_of e21 c21_4 (rw_ord (pc' := 7) rfl rfl rfl (by decide) (Nat.le_of_ble_eq_true rfl) rfl ?_)
  show wp _ _ 21 7 [(0, .ref r0), (1, .ref 19)] [vI 3, .ref 2] _ H _
  have k8548 : H 2 (3 : Int).toNat = 4 := (hW.2 2 _ hW.1.2.1).2.2 3 (by decide) |> fun z => by have z1 : (4 : Int) ≤ H 2 3 ∧ H 2 3 ≤ 4 := z; exact Int.le_antisymm z1.2 z1.1
  refine wp_of e21 c21_7 (rw_iaload (pc' := 8) (n := 11) (hW.sh hW.1.2.1 rfl) (by decide) (by decide) (by decide) rfl rfl ?_)
  rw [k8548]
  have c8549 : 4 = 4 := by omega
  refine wp_of e21 c21_8 (rw_tsw (p1 := 87) ⟨by omega, by omega⟩ (by rw [c8549]; decide) ?_)
  refine wp_of e21 c21_87 (rw_aload_n (pc' := 88) (v := .ref r0) rfl rfl rfl ?_)
  refine wp_of e21 c21_88 (xg_I (pc' := 91) lf_7_53 hW g0 sh_27 (by decide) (by decide) ty_27_11 rfl rfl (fun b8550 b8551 => ?_))
  exact wp_ireturn e21 c21_91 rfl ⟨rfl, rfl, H r0 11, rfl, ⟨by omega, by omega⟩⟩

/-! StrikeAwake$Parish.linesOf(LStrikeAwake$Reserved;)I -/
abbrev q_21_20 (r0 : Nat) (T : wq_T) (H : wq_H) : Option Value → wq_T → wq_H → Prop := fun r T' H' => T = T' ∧ H = H' ∧ ∃ z : Int, some (vI z) = r ∧ ((-2147483648) ≤ z ∧ z ≤ 2147483647) ∧ (z = H r0 12)
set_option maxHeartbeats 4000000 in
theorem s_21_20 {kt : Nat → Option mc_E} {T : wq_T} {H : wq_H} {r0 : Nat} (hW : WT T H) (g0 : T.2.2.2 r0 = some 27) : wpc kt 1 21 [.ref r0, .ref 20] T H (q_21_20 r0 T H) := by
  refine wp_enter e21 (Nat.le_of_ble_eq_true rfl) rfl ?_
  show wp _ _ 21 0 [(0, .ref r0), (1, .ref 20)] [] _ H _
  refine wp_of e21 c21_0 (rw_gs (pc' := 3) (k := 2) rfl rfl rfl rfl ?_)
  refine wp_of e21 c21_3 (rw_aload_n (pc' := 4) (v := .ref 20) rfl rfl rfl ?_)
  refine wp_of e21 c21_4 (rw_ord (pc' := 7) rfl rfl rfl (by decide) (Nat.le_of_ble_eq_true rfl) rfl ?_)
  show wp _ _ 21 7 [(0, .ref r0), (1, .ref 20)] [vI 4, .ref 2] _ H _
  have k8556 : H 2 (4 : Int).toNat = 5 := (hW.2 2 _ hW.1.2.1).2.2 4 (by decide) |> fun z => by have z1 : (5 : Int) ≤ H 2 4 ∧ H 2 4 ≤ 5 := z; exact Int.le_antisymm z1.2 z1.1
  refine wp_of e21 c21_7 (rw_iaload (pc' := 8) (n := 11) (hW.sh hW.1.2.1 rfl) (by decide) (by decide) (by decide) rfl rfl ?_)
  rw [k8556]
  have c8557 : 5 = 5 := by omega
  refine wp_of e21 c21_8 (rw_tsw (p1 := 92) ⟨by omega, by omega⟩ (by rw [c8557]; decide) ?_)
  refine wp_of e21 c21_92 (rw_aload_n (pc' := 93) (v := .ref r0) rfl rfl rfl ?_)
  refine wp_of e21 c21_93 (xg_I (pc' := 96) lf_7_56 hW g0 sh_27 (by decide) (by decide) ty_27_12 rfl rfl (fun b8558 b8559 => ?_))
  exact wp_ireturn e21 c21_96 rfl ⟨rfl, rfl, H r0 12, rfl, ⟨by omega, by omega⟩, by omega⟩

/-! StrikeAwake$Parish.linesOf(LStrikeAwake$Reserved;)I -/
abbrev q_21_21 (r0 : Nat) (T : wq_T) (H : wq_H) : Option Value → wq_T → wq_H → Prop := fun r T' H' => T = T' ∧ H = H' ∧ ∃ z : Int, some (vI z) = r ∧ ((-2147483648) ≤ z ∧ z ≤ 2147483647)
set_option maxHeartbeats 4000000 in
theorem s_21_21 {kt : Nat → Option mc_E} {T : wq_T} {H : wq_H} {r0 : Nat} (hW : WT T H) (g0 : T.2.2.2 r0 = some 27) : wpc kt 1 21 [.ref r0, .ref 21] T H (q_21_21 r0 T H) := by
  refine wp_enter e21 (Nat.le_of_ble_eq_true rfl) rfl ?_
  show wp _ _ 21 0 [(0, .ref r0), (1, .ref 21)] [] _ H _
  refine wp_of e21 c21_0 (rw_gs (pc' := 3) (k := 2) rfl rfl rfl rfl ?_)
  refine wp_of e21 c21_3 (rw_aload_n (pc' := 4) (v := .ref 21) rfl rfl rfl ?_)
  refine wp_of e21 c21_4 (rw_ord (pc' := 7) rfl rfl rfl (by decide) (Nat.le_of_ble_eq_true rfl) rfl ?_)
  show wp _ _ 21 7 [(0, .ref r0), (1, .ref 21)] [vI 5, .ref 2] _ H _
  have k8564 : H 2 (5 : Int).toNat = 6 := (hW.2 2 _ hW.1.2.1).2.2 5 (by decide) |> fun z => by have z1 : (6 : Int) ≤ H 2 5 ∧ H 2 5 ≤ 6 := z; exact Int.le_antisymm z1.2 z1.1
  refine wp_of e21 c21_7 (rw_iaload (pc' := 8) (n := 11) (hW.sh hW.1.2.1 rfl) (by decide) (by decide) (by decide) rfl rfl ?_)
  rw [k8564]
  have c8565 : 6 = 6 := by omega
  refine wp_of e21 c21_8 (rw_tsw (p1 := 97) ⟨by omega, by omega⟩ (by rw [c8565]; decide) ?_)
  refine wp_of e21 c21_97 (rw_aload_n (pc' := 98) (v := .ref r0) rfl rfl rfl ?_)
  refine wp_of e21 c21_98 (xg_I (pc' := 101) lf_7_65 hW g0 sh_27 (by decide) (by decide) ty_27_16 rfl rfl (fun b8566 b8567 => ?_))
  exact wp_ireturn e21 c21_101 rfl ⟨rfl, rfl, H r0 16, rfl, ⟨by omega, by omega⟩⟩

/-! StrikeAwake$Parish.linesOf(LStrikeAwake$Reserved;)I -/
abbrev q_21_22 (r0 : Nat) (T : wq_T) (H : wq_H) : Option Value → wq_T → wq_H → Prop := fun r T' H' => T = T' ∧ H = H' ∧ ∃ z : Int, some (vI z) = r ∧ ((-2147483648) ≤ z ∧ z ≤ 2147483647) ∧ (z = H r0 13)
set_option maxHeartbeats 4000000 in
theorem s_21_22 {kt : Nat → Option mc_E} {T : wq_T} {H : wq_H} {r0 : Nat} (hW : WT T H) (g0 : T.2.2.2 r0 = some 27) : wpc kt 1 21 [.ref r0, .ref 22] T H (q_21_22 r0 T H) := by
  refine wp_enter e21 (Nat.le_of_ble_eq_true rfl) rfl ?_
  show wp _ _ 21 0 [(0, .ref r0), (1, .ref 22)] [] _ H _
  refine wp_of e21 c21_0 (rw_gs (pc' := 3) (k := 2) rfl rfl rfl rfl ?_)
  refine wp_of e21 c21_3 (rw_aload_n (pc' := 4) (v := .ref 22) rfl rfl rfl ?_)
  refine wp_of e21 c21_4 (rw_ord (pc' := 7) rfl rfl rfl (by decide) (Nat.le_of_ble_eq_true rfl) rfl ?_)
  show wp _ _ 21 7 [(0, .ref r0), (1, .ref 22)] [vI 6, .ref 2] _ H _
  have k8572 : H 2 (6 : Int).toNat = 7 := (hW.2 2 _ hW.1.2.1).2.2 6 (by decide) |> fun z => by have z1 : (7 : Int) ≤ H 2 6 ∧ H 2 6 ≤ 7 := z; exact Int.le_antisymm z1.2 z1.1
  refine wp_of e21 c21_7 (rw_iaload (pc' := 8) (n := 11) (hW.sh hW.1.2.1 rfl) (by decide) (by decide) (by decide) rfl rfl ?_)
  rw [k8572]
  have c8573 : 7 = 7 := by omega
  refine wp_of e21 c21_8 (rw_tsw (p1 := 102) ⟨by omega, by omega⟩ (by rw [c8573]; decide) ?_)
  refine wp_of e21 c21_102 (rw_aload_n (pc' := 103) (v := .ref r0) rfl rfl rfl ?_)
  refine wp_of e21 c21_103 (xg_I (pc' := 106) lf_7_59 hW g0 sh_27 (by decide) (by decide) ty_27_13 rfl rfl (fun b8574 b8575 => ?_))
  exact wp_ireturn e21 c21_106 rfl ⟨rfl, rfl, H r0 13, rfl, ⟨by omega, by omega⟩, by omega⟩

/-! StrikeAwake$Parish.linesOf(LStrikeAwake$Reserved;)I -/
abbrev q_21_23 (r0 : Nat) (T : wq_T) (H : wq_H) : Option Value → wq_T → wq_H → Prop := fun r T' H' => T = T' ∧ H = H' ∧ ∃ z : Int, some (vI z) = r ∧ ((-2147483648) ≤ z ∧ z ≤ 2147483647) ∧ (z = H r0 14)
set_option maxHeartbeats 4000000 in
theorem s_21_23 {kt : Nat → Option mc_E} {T : wq_T} {H : wq_H} {r0 : Nat} (hW : WT T H) (g0 : T.2.2.2 r0 = some 27) : wpc kt 1 21 [.ref r0, .ref 23] T H (q_21_23 r0 T H) := by
  refine wp_enter e21 (Nat.le_of_ble_eq_true rfl) rfl ?_
  show wp _ _ 21 0 [(0, .ref r0), (1, .ref 23)] [] _ H _
  refine wp_of e21 c21_0 (rw_gs (pc' := 3) (k := 2) rfl rfl rfl rfl ?_)
  refine wp_of e21 c21_3 (rw_aload_n (pc' := 4) (v := .ref 23) rfl rfl rfl ?_)
  refine wp_of e21 c21_4 (rw_ord (pc' := 7) rfl rfl rfl (by decide) (Nat.le_of_ble_eq_true rfl) rfl ?_)
  show wp _ _ 21 7 [(0, .ref r0), (1, .ref 23)] [vI 7, .ref 2] _ H _
  have k8580 : H 2 (7 : Int).toNat = 8 := (hW.2 2 _ hW.1.2.1).2.2 7 (by decide) |> fun z => by have z1 : (8 : Int) ≤ H 2 7 ∧ H 2 7 ≤ 8 := z; exact Int.le_antisymm z1.2 z1.1
  refine wp_of e21 c21_7 (rw_iaload (pc' := 8) (n := 11) (hW.sh hW.1.2.1 rfl) (by decide) (by decide) (by decide) rfl rfl ?_)
  rw [k8580]
  have c8581 : 8 = 8 := by omega
  refine wp_of e21 c21_8 (rw_tsw (p1 := 107) ⟨by omega, by omega⟩ (by rw [c8581]; decide) ?_)
  refine wp_of e21 c21_107 (rw_aload_n (pc' := 108) (v := .ref r0) rfl rfl rfl ?_)
  refine wp_of e21 c21_108 (xg_I (pc' := 111) lf_7_62 hW g0 sh_27 (by decide) (by decide) ty_27_14 rfl rfl (fun b8582 b8583 => ?_))
  exact wp_ireturn e21 c21_111 rfl ⟨rfl, rfl, H r0 14, rfl, ⟨by omega, by omega⟩, by omega⟩
/-! StrikeAwake$Reader.takesWord(Ljava/lang/String;)Z -/
theorem e23 : wq_en 23 = some (1, 2, false, some FieldType.boolean) := rfl
theorem c23_0 : mc_cd 23 0 = some (.aload_n 0, 1) := by decide +kernel
theorem c23_1 : mc_cd 23 1 = some (.getfield 12, 3) := by decide +kernel
theorem c23_4 : mc_cd 23 4 = some (.aload_n 1, 1) := by decide +kernel
theorem c23_5 : mc_cd 23 5 = some (.invokevirtual 185, 3) := by decide +kernel
theorem c23_8 : mc_cd 23 8 = some (.ifCond .ne 9, 3) := by decide +kernel
theorem c23_11 : mc_cd 23 11 = some (.aload_n 0, 1) := by decide +kernel
theorem c23_12 : mc_cd 23 12 = some (.iconst 1, 1) := by decide +kernel
theorem c23_13 : mc_cd 23 13 = some (.invokevirtual 47, 3) := by decide +kernel
theorem c23_16 : mc_cd 23 16 = some (.ireturn, 1) := by decide +kernel
theorem c23_17 : mc_cd 23 17 = some (.aload_n 0, 1) := by decide +kernel
theorem c23_18 : mc_cd 23 18 = some (.getfield 12, 3) := by decide +kernel
theorem c23_21 : mc_cd 23 21 = some (.invokevirtual 74, 3) := by decide +kernel
theorem c23_24 : mc_cd 23 24 = some (.iconst 1, 1) := by decide +kernel
theorem c23_25 : mc_cd 23 25 = some (.ireturn, 1) := by decide +kernel
abbrev q_23 (r0 : Nat) (s1 : Nat) (tk : Nat) (rb : Nat) (T : wq_T) (H : wq_H) : Option Value → wq_T → wq_H → Prop := fun r T' H' => T = T' ∧ WT T H' ∧ wfr [(3, 3), (3, 4), (4, 2), (4, 3), (4, 4), (4, 5), (4, 6)] T H H' ∧ ∃ z : Int, some (vI z) = r ∧ (0 ≤ z ∧ z ≤ 1)
set_option maxHeartbeats 4000000 in
theorem s_23 {kt : Nat → Option mc_E} {T : wq_T} {H : wq_H} {r0 : Nat} {s1 : Nat} {t1 : List Int32} {tk : Nat} {rb : Nat} (hW : WT T H) (g0 : T.2.2.2 r0 = some 3) (h1 : mc_find mc_sb s1 = some t1) (qtk : H r0 0 = (tk : Int)) (gtk : T.2.2.2 tk = some 4) (qrb : H tk 0 = (rb : Int)) (grb : T.2.2.2 rb = some 2) : wpc kt 2 23 [.ref r0, .ref s1] T H (q_23 r0 s1 tk rb T H) := by
  refine wp_enter e23 (Nat.le_of_ble_eq_true rfl) rfl ?_
  have f0 : wfr [(3, 3), (3, 4), (4, 2), (4, 3), (4, 4), (4, 5), (4, 6)] T H H := wfr.rf
  show wp _ _ 23 0 [(0, .ref r0), (1, .ref s1)] [] _ H _
  refine wp_of e23 c23_0 (rw_aload_n (pc' := 1) (v := .ref r0) rfl rfl rfl ?_)
  refine wp_of e23 c23_1 (xg_K (pc' := 4) lf_1_12 hW g0 sh_3 (by decide) (by decide) rfl qtk rfl ?_)
  refine wp_of e23 c23_4 (rw_aload_n (pc' := 5) (v := .ref s1) rfl rfl rfl ?_)
  refine wp_of e23 c23_5 (xc_V (pc' := 8) (r := tk) (as := [.ref s1]) (st := []) (lm_1_185) rfl rfl (Nat.le_of_ble_eq_true rfl) hW gtk sh_4 (by decide) rfl (by decide) (s_19 hW gtk h1) (fun R8614 T8615 H8616 p8617 => ?_))
  obtain ⟨e8618, e8620, z8621, e8619, b8622⟩ := p8617
  subst e8618
  subst e8619
  subst e8620
  show wp _ _ 23 8 [(0, .ref r0), (1, .ref s1)] [vI z8621] _ H _
  refine wp_of e23 c23_8 (rw_if_ne (p1 := 17) (p2 := 11) (by decide) rfl ⟨by omega, by omega⟩ (fun c8623 => ?_) (fun c8623 => ?_))
  · refine wp_of e23 c23_17 (rw_aload_n (pc' := 18) (v := .ref r0) rfl rfl rfl ?_)
    refine wp_of e23 c23_18 (xg_K (pc' := 21) lf_1_12 hW g0 sh_3 (by decide) (by decide) rfl qtk rfl ?_)
    refine wp_of e23 c23_21 (xc_V (pc' := 24) (r := tk) (as := []) (st := []) (lm_1_74) rfl rfl (Nat.le_of_ble_eq_true rfl) hW gtk sh_4 (by decide) rfl (by decide) (s_16 hW gtk qrb grb) (fun R8624 T8625 H8626 p8627 => ?_))
    obtain ⟨e8628, w8630, f8631, e8629⟩ := p8627
    subst e8628
    subst e8629
    have f8632 := f0.tr f8631 rfl
    show wp _ _ 23 24 [(0, .ref r0), (1, .ref s1)] [] _ H8626 _
    refine wp_of e23 c23_24 (rw_iconst (pc' := 25) rfl ?_)
    exact wp_zreturn e23 c23_25 rfl (by omega) ⟨rfl, w8630, f8632, 1, rfl, ⟨by omega, by omega⟩⟩
  · refine wp_of e23 c23_11 (rw_aload_n (pc' := 12) (v := .ref r0) rfl rfl rfl ?_)
    refine wp_of e23 c23_12 (rw_iconst (pc' := 13) rfl ?_)
    refine wp_of e23 c23_13 (xc_V (pc' := 16) (r := r0) (as := [vI 1]) (st := []) (lm_1_47) rfl rfl (Nat.le_of_ble_eq_true rfl) hW g0 sh_3 (by decide) rfl (by decide) (s_20 hW g0 ⟨by omega, by omega⟩) (fun R8633 T8634 H8635 p8636 => ?_))
    obtain ⟨e8637, w8639, f8640, z8641, e8638, b8642⟩ := p8636
    subst e8637
    subst e8638
    have f8643 := f0.tr f8640 rfl
    show wp _ _ 23 16 [(0, .ref r0), (1, .ref s1)] [vI z8641] _ H8635 _
    exact wp_zreturn e23 c23_16 rfl (by omega) ⟨rfl, w8639, f8643, z8641, rfl, ⟨by omega, by omega⟩⟩
/-! StrikeAwake$Reader.whole(II)I -/
theorem e24 : wq_en 24 = some (1, 4, false, some FieldType.int) := rfl
theorem c24_0 : mc_cd 24 0 = some (.aload_n 0, 1) := by decide +kernel
theorem c24_1 : mc_cd 24 1 = some (.getfield 12, 3) := by decide +kernel
theorem c24_4 : mc_cd 24 4 = some (.getfield 38, 3) := by decide +kernel
theorem c24_7 : mc_cd 24 7 = some (.iconst 2, 1) := by decide +kernel
theorem c24_8 : mc_cd 24 8 = some (.if_icmp .eq 11, 3) := by decide +kernel
theorem c24_11 : mc_cd 24 11 = some (.aload_n 0, 1) := by decide +kernel
theorem c24_12 : mc_cd 24 12 = some (.iconst 1, 1) := by decide +kernel
theorem c24_13 : mc_cd 24 13 = some (.invokevirtual 47, 3) := by decide +kernel
theorem c24_16 : mc_cd 24 16 = some (.pop, 1) := by decide +kernel
theorem c24_17 : mc_cd 24 17 = some (.iconst (-1), 1) := by decide +kernel
theorem c24_18 : mc_cd 24 18 = some (.ireturn, 1) := by decide +kernel
theorem c24_19 : mc_cd 24 19 = some (.aload_n 0, 1) := by decide +kernel
theorem c24_20 : mc_cd 24 20 = some (.getfield 12, 3) := by decide +kernel
theorem c24_23 : mc_cd 24 23 = some (.getfield 230, 3) := by decide +kernel
theorem c24_26 : mc_cd 24 26 = some (.istore_n 3, 1) := by decide +kernel
theorem c24_27 : mc_cd 24 27 = some (.iload_n 3, 1) := by decide +kernel
theorem c24_28 : mc_cd 24 28 = some (.iload_n 1, 1) := by decide +kernel
theorem c24_29 : mc_cd 24 29 = some (.if_icmp .lt 8, 3) := by decide +kernel
theorem c24_32 : mc_cd 24 32 = some (.iload_n 3, 1) := by decide +kernel
theorem c24_33 : mc_cd 24 33 = some (.iload_n 2, 1) := by decide +kernel
theorem c24_34 : mc_cd 24 34 = some (.if_icmp .le 11, 3) := by decide +kernel
theorem c24_37 : mc_cd 24 37 = some (.aload_n 0, 1) := by decide +kernel
theorem c24_38 : mc_cd 24 38 = some (.iconst 4, 1) := by decide +kernel
theorem c24_39 : mc_cd 24 39 = some (.invokevirtual 47, 3) := by decide +kernel
theorem c24_42 : mc_cd 24 42 = some (.pop, 1) := by decide +kernel
theorem c24_43 : mc_cd 24 43 = some (.iconst (-1), 1) := by decide +kernel
theorem c24_44 : mc_cd 24 44 = some (.ireturn, 1) := by decide +kernel
theorem c24_45 : mc_cd 24 45 = some (.aload_n 0, 1) := by decide +kernel
theorem c24_46 : mc_cd 24 46 = some (.getfield 12, 3) := by decide +kernel
theorem c24_49 : mc_cd 24 49 = some (.invokevirtual 74, 3) := by decide +kernel
theorem c24_52 : mc_cd 24 52 = some (.iload_n 3, 1) := by decide +kernel
theorem c24_53 : mc_cd 24 53 = some (.ireturn, 1) := by decide +kernel
abbrev q_24 (r0 : Nat) (a1 : Int) (a2 : Int) (tk : Nat) (rb : Nat) (T : wq_T) (H : wq_H) : Option Value → wq_T → wq_H → Prop := fun r T' H' => T = T' ∧ WT T H' ∧ wfr [(3, 3), (3, 4), (4, 2), (4, 3), (4, 4), (4, 5), (4, 6)] T H H' ∧ ∃ z : Int, some (vI z) = r ∧ ((-1) ≤ z ∧ z ≤ 100) ∧ (z = -1 ∨ (a1 ≤ z ∧ z ≤ a2))
set_option maxHeartbeats 4000000 in
theorem s_24 {kt : Nat → Option mc_E} {T : wq_T} {H : wq_H} {r0 : Nat} {a1 : Int} {a2 : Int} {tk : Nat} {rb : Nat} (hW : WT T H) (g0 : T.2.2.2 r0 = some 3) (i1 : 0 ≤ a1 ∧ a1 ≤ 100) (i2 : 0 ≤ a2 ∧ a2 ≤ 100) (qtk : H r0 0 = (tk : Int)) (gtk : T.2.2.2 tk = some 4) (qrb : H tk 0 = (rb : Int)) (grb : T.2.2.2 rb = some 2) : wpc kt 2 24 [.ref r0, vI a1, vI a2] T H (q_24 r0 a1 a2 tk rb T H) := by
  refine wp_enter e24 (Nat.le_of_ble_eq_true rfl) rfl ?_
  have f0 : wfr [(3, 3), (3, 4), (4, 2), (4, 3), (4, 4), (4, 5), (4, 6)] T H H := wfr.rf
  show wp _ _ 24 0 [(0, .ref r0), (1, vI a1), (2, vI a2)] [] _ H _
  refine wp_of e24 c24_0 (rw_aload_n (pc' := 1) (v := .ref r0) rfl rfl rfl ?_)
  refine wp_of e24 c24_1 (xg_K (pc' := 4) lf_1_12 hW g0 sh_3 (by decide) (by decide) rfl qtk rfl ?_)
  refine wp_of e24 c24_4 (xg_I (pc' := 7) lf_1_38 hW gtk sh_4 (by decide) (by decide) ty_4_3 rfl rfl (fun b8693 b8694 => ?_))
  refine wp_of e24 c24_7 (rw_iconst (pc' := 8) rfl ?_)
  refine wp_of e24 c24_8 (rw_icmp_eq (p1 := 19) (p2 := 11) (by decide) rfl ⟨by omega, by omega⟩ ⟨by omega, by omega⟩ (fun c8695 => ?_) (fun c8695 => ?_))
  · refine wp_of e24 c24_19 (rw_aload_n (pc' := 20) (v := .ref r0) rfl rfl rfl ?_)
    refine wp_of e24 c24_20 (xg_K (pc' := 23) lf_1_12 hW g0 sh_3 (by decide) (by decide) rfl qtk rfl ?_)
    refine wp_of e24 c24_23 (xg_I (pc' := 26) lf_1_230 hW gtk sh_4 (by decide) (by decide) ty_4_5 rfl rfl (fun b8696 b8697 => ?_))
    refine wp_of e24 c24_26 (rw_istore_n (pc' := 27) (z := H tk 5) (L' := [(3, vI (H tk 5)), (0, .ref r0), (1, vI a1), (2, vI a2)]) rfl rfl rfl ?_)
    refine wp_of e24 c24_27 (rw_iload_n (pc' := 28) (z := H tk 5) rfl rfl ?_)
    refine wp_of e24 c24_28 (rw_iload_n (pc' := 29) (z := a1) rfl rfl ?_)
    refine wp_of e24 c24_29 (rw_icmp_lt (p1 := 37) (p2 := 32) (by decide) rfl ⟨by omega, by omega⟩ ⟨by omega, by omega⟩ (fun c8698 => ?_) (fun c8698 => ?_))
    · refine wp_of e24 c24_37 (rw_aload_n (pc' := 38) (v := .ref r0) rfl rfl rfl ?_)
      refine wp_of e24 c24_38 (rw_iconst (pc' := 39) rfl ?_)
      refine wp_of e24 c24_39 (xc_V (pc' := 42) (r := r0) (as := [vI 4]) (st := []) (lm_1_47) rfl rfl (Nat.le_of_ble_eq_true rfl) hW g0 sh_3 (by decide) rfl (by decide) (s_20 hW g0 ⟨by omega, by omega⟩) (fun R8699 T8700 H8701 p8702 => ?_))
      obtain ⟨e8703, w8705, f8706, z8707, e8704, b8708⟩ := p8702
      subst e8703
      subst e8704
      have f8709 := f0.tr f8706 rfl
      show wp _ _ 24 42 [(3, vI (H tk 5)), (0, .ref r0), (1, vI a1), (2, vI a2)] [vI z8707] _ H8701 _
      refine wp_of e24 c24_42 (rw_pop (pc' := 43) rfl rfl ?_)
      refine wp_of e24 c24_43 (rw_iconst (pc' := 44) rfl ?_)
      exact wp_ireturn e24 c24_44 rfl ⟨rfl, w8705, f8709, -1, rfl, ⟨by omega, by omega⟩, by omega⟩
    · refine wp_of e24 c24_32 (rw_iload_n (pc' := 33) (z := H tk 5) rfl rfl ?_)
      refine wp_of e24 c24_33 (rw_iload_n (pc' := 34) (z := a2) rfl rfl ?_)
      refine wp_of e24 c24_34 (rw_icmp_le (p1 := 45) (p2 := 37) (by decide) rfl ⟨by omega, by omega⟩ ⟨by omega, by omega⟩ (fun c8710 => ?_) (fun c8710 => ?_))
      · refine wp_of e24 c24_45 (rw_aload_n (pc' := 46) (v := .ref r0) rfl rfl rfl ?_)
        refine wp_of e24 c24_46 (xg_K (pc' := 49) lf_1_12 hW g0 sh_3 (by decide) (by decide) rfl qtk rfl ?_)
        refine wp_of e24 c24_49 (xc_V (pc' := 52) (r := tk) (as := []) (st := []) (lm_1_74) rfl rfl (Nat.le_of_ble_eq_true rfl) hW gtk sh_4 (by decide) rfl (by decide) (s_16 hW gtk qrb grb) (fun R8711 T8712 H8713 p8714 => ?_))
        obtain ⟨e8715, w8717, f8718, e8716⟩ := p8714
        subst e8715
        subst e8716
        have f8719 := f0.tr f8718 rfl
        show wp _ _ 24 52 [(3, vI (H tk 5)), (0, .ref r0), (1, vI a1), (2, vI a2)] [] _ H8713 _
        refine wp_of e24 c24_52 (rw_iload_n (pc' := 53) (z := H tk 5) rfl rfl ?_)
        exact wp_ireturn e24 c24_53 rfl ⟨rfl, w8717, f8719, H tk 5, rfl, ⟨by omega, by omega⟩, by omega⟩
      · refine wp_of e24 c24_37 (rw_aload_n (pc' := 38) (v := .ref r0) rfl rfl rfl ?_)
        refine wp_of e24 c24_38 (rw_iconst (pc' := 39) rfl ?_)
        refine wp_of e24 c24_39 (xc_V (pc' := 42) (r := r0) (as := [vI 4]) (st := []) (lm_1_47) rfl rfl (Nat.le_of_ble_eq_true rfl) hW g0 sh_3 (by decide) rfl (by decide) (s_20 hW g0 ⟨by omega, by omega⟩) (fun R8720 T8721 H8722 p8723 => ?_))
        obtain ⟨e8724, w8726, f8727, z8728, e8725, b8729⟩ := p8723
        subst e8724
        subst e8725
        have f8730 := f0.tr f8727 rfl
        show wp _ _ 24 42 [(3, vI (H tk 5)), (0, .ref r0), (1, vI a1), (2, vI a2)] [vI z8728] _ H8722 _
        refine wp_of e24 c24_42 (rw_pop (pc' := 43) rfl rfl ?_)
        refine wp_of e24 c24_43 (rw_iconst (pc' := 44) rfl ?_)
        exact wp_ireturn e24 c24_44 rfl ⟨rfl, w8726, f8730, -1, rfl, ⟨by omega, by omega⟩, by omega⟩
  · refine wp_of e24 c24_11 (rw_aload_n (pc' := 12) (v := .ref r0) rfl rfl rfl ?_)
    refine wp_of e24 c24_12 (rw_iconst (pc' := 13) rfl ?_)
    refine wp_of e24 c24_13 (xc_V (pc' := 16) (r := r0) (as := [vI 1]) (st := []) (lm_1_47) rfl rfl (Nat.le_of_ble_eq_true rfl) hW g0 sh_3 (by decide) rfl (by decide) (s_20 hW g0 ⟨by omega, by omega⟩) (fun R8731 T8732 H8733 p8734 => ?_))
    obtain ⟨e8735, w8737, f8738, z8739, e8736, b8740⟩ := p8734
    subst e8735
    subst e8736
    have f8741 := f0.tr f8738 rfl
    show wp _ _ 24 16 [(0, .ref r0), (1, vI a1), (2, vI a2)] [vI z8739] _ H8733 _
    refine wp_of e24 c24_16 (rw_pop (pc' := 17) rfl rfl ?_)
    refine wp_of e24 c24_17 (rw_iconst (pc' := 18) rfl ?_)
    exact wp_ireturn e24 c24_18 rfl ⟨rfl, w8737, f8741, -1, rfl, ⟨by omega, by omega⟩, by omega⟩
/-! StrikeAwake$Reader.readsLaw(LStrikeAwake$Parish;)Z -/
theorem e22 : wq_en 22 = some (1, 5, false, some FieldType.boolean) := rfl
theorem c22_0 : mc_cd 22 0 = some (.aload_n 0, 1) := by decide +kernel
theorem c22_1 : mc_cd 22 1 = some (.ldc 114, 2) := by decide +kernel
theorem c22_3 : mc_cd 22 3 = some (.invokevirtual 115, 3) := by decide +kernel
theorem c22_6 : mc_cd 22 6 = some (.ifCond .eq 13, 3) := by decide +kernel
theorem c22_9 : mc_cd 22 9 = some (.aload_n 0, 1) := by decide +kernel
theorem c22_10 : mc_cd 22 10 = some (.iconst 1, 1) := by decide +kernel
theorem c22_11 : mc_cd 22 11 = some (.bipush 24, 2) := by decide +kernel
theorem c22_13 : mc_cd 22 13 = some (.invokevirtual 119, 3) := by decide +kernel
theorem c22_16 : mc_cd 22 16 = some (.goto 4, 3) := by decide +kernel
theorem c22_19 : mc_cd 22 19 = some (.iconst (-1), 1) := by decide +kernel
theorem c22_20 : mc_cd 22 20 = some (.istore_n 2, 1) := by decide +kernel
theorem c22_21 : mc_cd 22 21 = some (.iload_n 2, 1) := by decide +kernel
theorem c22_22 : mc_cd 22 22 = some (.ifCond .lt 22, 3) := by decide +kernel
theorem c22_25 : mc_cd 22 25 = some (.aload_n 0, 1) := by decide +kernel
theorem c22_26 : mc_cd 22 26 = some (.ldc 123, 2) := by decide +kernel
theorem c22_28 : mc_cd 22 28 = some (.invokevirtual 115, 3) := by decide +kernel
theorem c22_31 : mc_cd 22 31 = some (.ifCond .eq 13, 3) := by decide +kernel
theorem c22_34 : mc_cd 22 34 = some (.aload_n 0, 1) := by decide +kernel
theorem c22_35 : mc_cd 22 35 = some (.iconst 0, 1) := by decide +kernel
theorem c22_36 : mc_cd 22 36 = some (.bipush 9, 2) := by decide +kernel
theorem c22_38 : mc_cd 22 38 = some (.invokevirtual 119, 3) := by decide +kernel
theorem c22_41 : mc_cd 22 41 = some (.goto 4, 3) := by decide +kernel
theorem c22_44 : mc_cd 22 44 = some (.iconst (-1), 1) := by decide +kernel
theorem c22_45 : mc_cd 22 45 = some (.istore_n 3, 1) := by decide +kernel
theorem c22_46 : mc_cd 22 46 = some (.iload_n 3, 1) := by decide +kernel
theorem c22_47 : mc_cd 22 47 = some (.ifCond .lt 21, 3) := by decide +kernel
theorem c22_50 : mc_cd 22 50 = some (.aload_n 0, 1) := by decide +kernel
theorem c22_51 : mc_cd 22 51 = some (.ldc 125, 2) := by decide +kernel
theorem c22_53 : mc_cd 22 53 = some (.invokevirtual 115, 3) := by decide +kernel
theorem c22_56 : mc_cd 22 56 = some (.ifCond .eq 12, 3) := by decide +kernel
theorem c22_59 : mc_cd 22 59 = some (.aload_n 0, 1) := by decide +kernel
theorem c22_60 : mc_cd 22 60 = some (.iconst 0, 1) := by decide +kernel
theorem c22_61 : mc_cd 22 61 = some (.iconst 3, 1) := by decide +kernel
theorem c22_62 : mc_cd 22 62 = some (.invokevirtual 119, 3) := by decide +kernel
theorem c22_65 : mc_cd 22 65 = some (.goto 4, 3) := by decide +kernel
theorem c22_68 : mc_cd 22 68 = some (.iconst (-1), 1) := by decide +kernel
theorem c22_69 : mc_cd 22 69 = some (.istore 4, 2) := by decide +kernel
theorem c22_71 : mc_cd 22 71 = some (.iload 4, 2) := by decide +kernel
theorem c22_73 : mc_cd 22 73 = some (.ifCond .ge 5, 3) := by decide +kernel
theorem c22_76 : mc_cd 22 76 = some (.iconst 0, 1) := by decide +kernel
theorem c22_77 : mc_cd 22 77 = some (.ireturn, 1) := by decide +kernel
theorem c22_78 : mc_cd 22 78 = some (.aload_n 1, 1) := by decide +kernel
theorem c22_79 : mc_cd 22 79 = some (.iload_n 2, 1) := by decide +kernel
theorem c22_80 : mc_cd 22 80 = some (.putfield 41, 3) := by decide +kernel
theorem c22_83 : mc_cd 22 83 = some (.aload_n 1, 1) := by decide +kernel
theorem c22_84 : mc_cd 22 84 = some (.iload_n 3, 1) := by decide +kernel
theorem c22_85 : mc_cd 22 85 = some (.putfield 127, 3) := by decide +kernel
theorem c22_88 : mc_cd 22 88 = some (.aload_n 1, 1) := by decide +kernel
theorem c22_89 : mc_cd 22 89 = some (.iload 4, 2) := by decide +kernel
theorem c22_91 : mc_cd 22 91 = some (.putfield 129, 3) := by decide +kernel
theorem c22_94 : mc_cd 22 94 = some (.iconst 1, 1) := by decide +kernel
theorem c22_95 : mc_cd 22 95 = some (.ireturn, 1) := by decide +kernel
abbrev q_22 (r0 : Nat) (r1 : Nat) (tk : Nat) (rb : Nat) (T : wq_T) (H : wq_H) : Option Value → wq_T → wq_H → Prop := fun r T' H' => T = T' ∧ WT T H' ∧ wfr [(27, 7), (27, 8), (27, 9), (3, 3), (3, 4), (4, 2), (4, 3), (4, 4), (4, 5), (4, 6)] T H H' ∧ ∃ z : Int, some (vI z) = r ∧ (0 ≤ z ∧ z ≤ 1)
set_option maxHeartbeats 4000000 in
theorem s_22 {kt : Nat → Option mc_E} {T : wq_T} {H : wq_H} {r0 : Nat} {r1 : Nat} {tk : Nat} {rb : Nat} (hW : WT T H) (g0 : T.2.2.2 r0 = some 3) (g1 : T.2.2.2 r1 = some 27) (qtk : H r0 0 = (tk : Int)) (gtk : T.2.2.2 tk = some 4) (qrb : H tk 0 = (rb : Int)) (grb : T.2.2.2 rb = some 2) : wpc kt 3 22 [.ref r0, .ref r1] T H (q_22 r0 r1 tk rb T H) := by
  refine wp_enter e22 (Nat.le_of_ble_eq_true rfl) rfl ?_
  have f0 : wfr [(27, 7), (27, 8), (27, 9), (3, 3), (3, 4), (4, 2), (4, 3), (4, 4), (4, 5), (4, 6)] T H H := wfr.rf
  show wp _ _ 22 0 [(0, .ref r0), (1, .ref r1)] [] _ H _
  refine wp_of e22 c22_0 (rw_aload_n (pc' := 1) (v := .ref r0) rfl rfl rfl ?_)
  refine wp_of e22 c22_1 (rw_ldcS (pc' := 3) (k := 64) rfl rfl rfl rfl ?_)
  refine wp_of e22 c22_3 (xc_V (pc' := 6) (r := r0) (as := [.ref 64]) (st := []) (lm_1_115) rfl rfl (Nat.le_of_ble_eq_true rfl) hW g0 sh_3 (by decide) rfl (by decide) (s_23 hW g0 rfl qtk gtk qrb grb) (fun R8861 T8862 H8863 p8864 => ?_))
  obtain ⟨e8865, w8867, f8868, z8869, e8866, b8870⟩ := p8864
  subst e8865
  subst e8866
  have f8871 := f0.tr f8868 rfl
  show wp _ _ 22 6 [(0, .ref r0), (1, .ref r1)] [vI z8869] _ H8863 _
  refine wp_of e22 c22_6 (rw_if_eq (p1 := 19) (p2 := 9) (by decide) rfl ⟨by omega, by omega⟩ (fun c8872 => ?_) (fun c8872 => ?_))
  · refine wp_of e22 c22_19 (rw_iconst (pc' := 20) rfl ?_)
    refine wp_of e22 c22_20 (rw_istore_n (pc' := 21) (z := -1) (L' := [(2, vI (-1)), (0, .ref r0), (1, .ref r1)]) rfl rfl rfl ?_)
    refine wp_of e22 c22_21 (rw_iload_n (pc' := 22) (z := -1) rfl rfl ?_)
    refine wp_of e22 c22_22 (rw_if_lt (p1 := 44) (p2 := 25) (by decide) rfl ⟨by omega, by omega⟩ (fun c8873 => ?_) (fun c8873 => ?_))
    · refine wp_of e22 c22_44 (rw_iconst (pc' := 45) rfl ?_)
      refine wp_of e22 c22_45 (rw_istore_n (pc' := 46) (z := -1) (L' := [(3, vI (-1)), (2, vI (-1)), (0, .ref r0), (1, .ref r1)]) rfl rfl rfl ?_)
      refine wp_of e22 c22_46 (rw_iload_n (pc' := 47) (z := -1) rfl rfl ?_)
      refine wp_of e22 c22_47 (rw_if_lt (p1 := 68) (p2 := 50) (by decide) rfl ⟨by omega, by omega⟩ (fun c8874 => ?_) (fun c8874 => ?_))
      · refine wp_of e22 c22_68 (rw_iconst (pc' := 69) rfl ?_)
        refine wp_of e22 c22_69 (rw_istore (pc' := 71) (z := -1) (L' := [(4, vI (-1)), (3, vI (-1)), (2, vI (-1)), (0, .ref r0), (1, .ref r1)]) rfl rfl rfl ?_)
        refine wp_of e22 c22_71 (rw_iload (pc' := 73) (z := -1) rfl rfl ?_)
        refine wp_of e22 c22_73 (rw_if_ge (p1 := 78) (p2 := 76) (by decide) rfl ⟨by omega, by omega⟩ (fun c8875 => ?_) (fun c8875 => ?_))
        · exfalso
          omega
        · refine wp_of e22 c22_76 (rw_iconst (pc' := 77) rfl ?_)
          exact wp_zreturn e22 c22_77 rfl (by omega) ⟨rfl, w8867, f8871, 0, rfl, ⟨by omega, by omega⟩⟩
      · exfalso
        omega
    · exfalso
      omega
  · refine wp_of e22 c22_9 (rw_aload_n (pc' := 10) (v := .ref r0) rfl rfl rfl ?_)
    refine wp_of e22 c22_10 (rw_iconst (pc' := 11) rfl ?_)
    refine wp_of e22 c22_11 (rw_bipush (pc' := 13) (z := 24) rfl (by decide) ?_)
    have k8876 : H8863 r0 0 = H r0 0 := (f8868 r0 0 _ g0 rfl)
    have q8877 : H8863 r0 0 = (tk : Int) := k8876.trans qtk
    have k8878 : H8863 tk 0 = H tk 0 := (f8868 tk 0 _ gtk rfl)
    have q8879 : H8863 tk 0 = (rb : Int) := k8878.trans qrb
    refine wp_of e22 c22_13 (xc_V (pc' := 16) (r := r0) (as := [vI 1, vI 24]) (st := []) (lm_1_119) rfl rfl (Nat.le_of_ble_eq_true rfl) w8867 g0 sh_3 (by decide) rfl (by decide) (s_24 w8867 g0 ⟨by omega, by omega⟩ ⟨by omega, by omega⟩ q8877 gtk q8879 grb) (fun R8880 T8881 H8882 p8883 => ?_))
    obtain ⟨e8884, w8886, f8887, z8889, e8885, b8890, p8888⟩ := p8883
    subst e8884
    subst e8885
    have f8891 := f8871.tr f8887 rfl
    show wp _ _ 22 16 [(0, .ref r0), (1, .ref r1)] [vI z8889] _ H8882 _
    refine wp_of e22 c22_16 (rw_goto (p1 := 20) (by decide) ?_)
    refine wp_of e22 c22_20 (rw_istore_n (pc' := 21) (z := z8889) (L' := [(2, vI z8889), (0, .ref r0), (1, .ref r1)]) rfl rfl rfl ?_)
    refine wp_of e22 c22_21 (rw_iload_n (pc' := 22) (z := z8889) rfl rfl ?_)
    refine wp_of e22 c22_22 (rw_if_lt (p1 := 44) (p2 := 25) (by decide) rfl ⟨by omega, by omega⟩ (fun c8892 => ?_) (fun c8892 => ?_))
    · refine wp_of e22 c22_44 (rw_iconst (pc' := 45) rfl ?_)
      refine wp_of e22 c22_45 (rw_istore_n (pc' := 46) (z := -1) (L' := [(3, vI (-1)), (2, vI z8889), (0, .ref r0), (1, .ref r1)]) rfl rfl rfl ?_)
      refine wp_of e22 c22_46 (rw_iload_n (pc' := 47) (z := -1) rfl rfl ?_)
      refine wp_of e22 c22_47 (rw_if_lt (p1 := 68) (p2 := 50) (by decide) rfl ⟨by omega, by omega⟩ (fun c8893 => ?_) (fun c8893 => ?_))
      · refine wp_of e22 c22_68 (rw_iconst (pc' := 69) rfl ?_)
        refine wp_of e22 c22_69 (rw_istore (pc' := 71) (z := -1) (L' := [(4, vI (-1)), (3, vI (-1)), (2, vI z8889), (0, .ref r0), (1, .ref r1)]) rfl rfl rfl ?_)
        refine wp_of e22 c22_71 (rw_iload (pc' := 73) (z := -1) rfl rfl ?_)
        refine wp_of e22 c22_73 (rw_if_ge (p1 := 78) (p2 := 76) (by decide) rfl ⟨by omega, by omega⟩ (fun c8894 => ?_) (fun c8894 => ?_))
        · exfalso
          omega
        · refine wp_of e22 c22_76 (rw_iconst (pc' := 77) rfl ?_)
          exact wp_zreturn e22 c22_77 rfl (by omega) ⟨rfl, w8886, f8891, 0, rfl, ⟨by omega, by omega⟩⟩
      · exfalso
        omega
    · refine wp_of e22 c22_25 (rw_aload_n (pc' := 26) (v := .ref r0) rfl rfl rfl ?_)
      refine wp_of e22 c22_26 (rw_ldcS (pc' := 28) (k := 65) rfl rfl rfl rfl ?_)
      have k8895 : H8882 r0 0 = H8863 r0 0 := (f8887 r0 0 _ g0 rfl)
      have q8896 : H8882 r0 0 = (tk : Int) := k8895.trans q8877
      have k8897 : H8882 tk 0 = H8863 tk 0 := (f8887 tk 0 _ gtk rfl)
      have q8898 : H8882 tk 0 = (rb : Int) := k8897.trans q8879
      refine wp_of e22 c22_28 (xc_V (pc' := 31) (r := r0) (as := [.ref 65]) (st := []) (lm_1_115) rfl rfl (Nat.le_of_ble_eq_true rfl) w8886 g0 sh_3 (by decide) rfl (by decide) (s_23 w8886 g0 rfl q8896 gtk q8898 grb) (fun R8899 T8900 H8901 p8902 => ?_))
      obtain ⟨e8903, w8905, f8906, z8907, e8904, b8908⟩ := p8902
      subst e8903
      subst e8904
      have f8909 := f8891.tr f8906 rfl
      show wp _ _ 22 31 [(2, vI z8889), (0, .ref r0), (1, .ref r1)] [vI z8907] _ H8901 _
      refine wp_of e22 c22_31 (rw_if_eq (p1 := 44) (p2 := 34) (by decide) rfl ⟨by omega, by omega⟩ (fun c8910 => ?_) (fun c8910 => ?_))
      · refine wp_of e22 c22_44 (rw_iconst (pc' := 45) rfl ?_)
        refine wp_of e22 c22_45 (rw_istore_n (pc' := 46) (z := -1) (L' := [(3, vI (-1)), (2, vI z8889), (0, .ref r0), (1, .ref r1)]) rfl rfl rfl ?_)
        refine wp_of e22 c22_46 (rw_iload_n (pc' := 47) (z := -1) rfl rfl ?_)
        refine wp_of e22 c22_47 (rw_if_lt (p1 := 68) (p2 := 50) (by decide) rfl ⟨by omega, by omega⟩ (fun c8911 => ?_) (fun c8911 => ?_))
        · refine wp_of e22 c22_68 (rw_iconst (pc' := 69) rfl ?_)
          refine wp_of e22 c22_69 (rw_istore (pc' := 71) (z := -1) (L' := [(4, vI (-1)), (3, vI (-1)), (2, vI z8889), (0, .ref r0), (1, .ref r1)]) rfl rfl rfl ?_)
          refine wp_of e22 c22_71 (rw_iload (pc' := 73) (z := -1) rfl rfl ?_)
          refine wp_of e22 c22_73 (rw_if_ge (p1 := 78) (p2 := 76) (by decide) rfl ⟨by omega, by omega⟩ (fun c8912 => ?_) (fun c8912 => ?_))
          · exfalso
            omega
          · refine wp_of e22 c22_76 (rw_iconst (pc' := 77) rfl ?_)
            exact wp_zreturn e22 c22_77 rfl (by omega) ⟨rfl, w8905, f8909, 0, rfl, ⟨by omega, by omega⟩⟩
        · exfalso
          omega
      · refine wp_of e22 c22_34 (rw_aload_n (pc' := 35) (v := .ref r0) rfl rfl rfl ?_)
        refine wp_of e22 c22_35 (rw_iconst (pc' := 36) rfl ?_)
        refine wp_of e22 c22_36 (rw_bipush (pc' := 38) (z := 9) rfl (by decide) ?_)
        have k8913 : H8901 r0 0 = H8882 r0 0 := (f8906 r0 0 _ g0 rfl)
        have q8914 : H8901 r0 0 = (tk : Int) := k8913.trans q8896
        have k8915 : H8901 tk 0 = H8882 tk 0 := (f8906 tk 0 _ gtk rfl)
        have q8916 : H8901 tk 0 = (rb : Int) := k8915.trans q8898
        refine wp_of e22 c22_38 (xc_V (pc' := 41) (r := r0) (as := [vI 0, vI 9]) (st := []) (lm_1_119) rfl rfl (Nat.le_of_ble_eq_true rfl) w8905 g0 sh_3 (by decide) rfl (by decide) (s_24 w8905 g0 ⟨by omega, by omega⟩ ⟨by omega, by omega⟩ q8914 gtk q8916 grb) (fun R8917 T8918 H8919 p8920 => ?_))
        obtain ⟨e8921, w8923, f8924, z8926, e8922, b8927, p8925⟩ := p8920
        subst e8921
        subst e8922
        have f8928 := f8909.tr f8924 rfl
        show wp _ _ 22 41 [(2, vI z8889), (0, .ref r0), (1, .ref r1)] [vI z8926] _ H8919 _
        refine wp_of e22 c22_41 (rw_goto (p1 := 45) (by decide) ?_)
        refine wp_of e22 c22_45 (rw_istore_n (pc' := 46) (z := z8926) (L' := [(3, vI z8926), (2, vI z8889), (0, .ref r0), (1, .ref r1)]) rfl rfl rfl ?_)
        refine wp_of e22 c22_46 (rw_iload_n (pc' := 47) (z := z8926) rfl rfl ?_)
        refine wp_of e22 c22_47 (rw_if_lt (p1 := 68) (p2 := 50) (by decide) rfl ⟨by omega, by omega⟩ (fun c8929 => ?_) (fun c8929 => ?_))
        · refine wp_of e22 c22_68 (rw_iconst (pc' := 69) rfl ?_)
          refine wp_of e22 c22_69 (rw_istore (pc' := 71) (z := -1) (L' := [(4, vI (-1)), (3, vI z8926), (2, vI z8889), (0, .ref r0), (1, .ref r1)]) rfl rfl rfl ?_)
          refine wp_of e22 c22_71 (rw_iload (pc' := 73) (z := -1) rfl rfl ?_)
          refine wp_of e22 c22_73 (rw_if_ge (p1 := 78) (p2 := 76) (by decide) rfl ⟨by omega, by omega⟩ (fun c8930 => ?_) (fun c8930 => ?_))
          · exfalso
            omega
          · refine wp_of e22 c22_76 (rw_iconst (pc' := 77) rfl ?_)
            exact wp_zreturn e22 c22_77 rfl (by omega) ⟨rfl, w8923, f8928, 0, rfl, ⟨by omega, by omega⟩⟩
        · refine wp_of e22 c22_50 (rw_aload_n (pc' := 51) (v := .ref r0) rfl rfl rfl ?_)
          refine wp_of e22 c22_51 (rw_ldcS (pc' := 53) (k := 66) rfl rfl rfl rfl ?_)
          have k8931 : H8919 r0 0 = H8901 r0 0 := (f8924 r0 0 _ g0 rfl)
          have q8932 : H8919 r0 0 = (tk : Int) := k8931.trans q8914
          have k8933 : H8919 tk 0 = H8901 tk 0 := (f8924 tk 0 _ gtk rfl)
          have q8934 : H8919 tk 0 = (rb : Int) := k8933.trans q8916
          refine wp_of e22 c22_53 (xc_V (pc' := 56) (r := r0) (as := [.ref 66]) (st := []) (lm_1_115) rfl rfl (Nat.le_of_ble_eq_true rfl) w8923 g0 sh_3 (by decide) rfl (by decide) (s_23 w8923 g0 rfl q8932 gtk q8934 grb) (fun R8935 T8936 H8937 p8938 => ?_))
          obtain ⟨e8939, w8941, f8942, z8943, e8940, b8944⟩ := p8938
          subst e8939
          subst e8940
          have f8945 := f8928.tr f8942 rfl
          show wp _ _ 22 56 [(3, vI z8926), (2, vI z8889), (0, .ref r0), (1, .ref r1)] [vI z8943] _ H8937 _
          refine wp_of e22 c22_56 (rw_if_eq (p1 := 68) (p2 := 59) (by decide) rfl ⟨by omega, by omega⟩ (fun c8946 => ?_) (fun c8946 => ?_))
          · refine wp_of e22 c22_68 (rw_iconst (pc' := 69) rfl ?_)
            refine wp_of e22 c22_69 (rw_istore (pc' := 71) (z := -1) (L' := [(4, vI (-1)), (3, vI z8926), (2, vI z8889), (0, .ref r0), (1, .ref r1)]) rfl rfl rfl ?_)
            refine wp_of e22 c22_71 (rw_iload (pc' := 73) (z := -1) rfl rfl ?_)
            refine wp_of e22 c22_73 (rw_if_ge (p1 := 78) (p2 := 76) (by decide) rfl ⟨by omega, by omega⟩ (fun c8947 => ?_) (fun c8947 => ?_))
            · exfalso
              omega
            · refine wp_of e22 c22_76 (rw_iconst (pc' := 77) rfl ?_)
              exact wp_zreturn e22 c22_77 rfl (by omega) ⟨rfl, w8941, f8945, 0, rfl, ⟨by omega, by omega⟩⟩
          · refine wp_of e22 c22_59 (rw_aload_n (pc' := 60) (v := .ref r0) rfl rfl rfl ?_)
            refine wp_of e22 c22_60 (rw_iconst (pc' := 61) rfl ?_)
            refine wp_of e22 c22_61 (rw_iconst (pc' := 62) rfl ?_)
            have k8948 : H8937 r0 0 = H8919 r0 0 := (f8942 r0 0 _ g0 rfl)
            have q8949 : H8937 r0 0 = (tk : Int) := k8948.trans q8932
            have k8950 : H8937 tk 0 = H8919 tk 0 := (f8942 tk 0 _ gtk rfl)
            have q8951 : H8937 tk 0 = (rb : Int) := k8950.trans q8934
            refine wp_of e22 c22_62 (xc_V (pc' := 65) (r := r0) (as := [vI 0, vI 3]) (st := []) (lm_1_119) rfl rfl (Nat.le_of_ble_eq_true rfl) w8941 g0 sh_3 (by decide) rfl (by decide) (s_24 w8941 g0 ⟨by omega, by omega⟩ ⟨by omega, by omega⟩ q8949 gtk q8951 grb) (fun R8952 T8953 H8954 p8955 => ?_))
            obtain ⟨e8956, w8958, f8959, z8961, e8957, b8962, p8960⟩ := p8955
            subst e8956
            subst e8957
            have f8963 := f8945.tr f8959 rfl
            show wp _ _ 22 65 [(3, vI z8926), (2, vI z8889), (0, .ref r0), (1, .ref r1)] [vI z8961] _ H8954 _
            refine wp_of e22 c22_65 (rw_goto (p1 := 69) (by decide) ?_)
            refine wp_of e22 c22_69 (rw_istore (pc' := 71) (z := z8961) (L' := [(4, vI z8961), (3, vI z8926), (2, vI z8889), (0, .ref r0), (1, .ref r1)]) rfl rfl rfl ?_)
            refine wp_of e22 c22_71 (rw_iload (pc' := 73) (z := z8961) rfl rfl ?_)
            refine wp_of e22 c22_73 (rw_if_ge (p1 := 78) (p2 := 76) (by decide) rfl ⟨by omega, by omega⟩ (fun c8964 => ?_) (fun c8964 => ?_))
            · refine wp_of e22 c22_78 (rw_aload_n (pc' := 79) (v := .ref r1) rfl rfl rfl ?_)
              refine wp_of e22 c22_79 (rw_iload_n (pc' := 80) (z := z8889) rfl rfl ?_)
              refine wp_of e22 c22_80 (xp_I (pc' := 83) lf_1_41 w8958 g1 sh_27 (by decide) (by decide) ty_27_7 rfl rfl (by omega) (by omega) ⟨by omega, by omega⟩ rfl (fun H8965 e8966 w8967 => ?_))
              have f8968 := f8963.put' e8966 g1 rfl
              have k8969 : H8965 r1 7 = z8889 := wq_u_s e8966
              refine wp_of e22 c22_83 (rw_aload_n (pc' := 84) (v := .ref r1) rfl rfl rfl ?_)
              refine wp_of e22 c22_84 (rw_iload_n (pc' := 85) (z := z8926) rfl rfl ?_)
              refine wp_of e22 c22_85 (xp_I (pc' := 88) lf_1_127 w8967 g1 sh_27 (by decide) (by decide) ty_27_8 rfl rfl (by omega) (by omega) ⟨by omega, by omega⟩ rfl (fun H8970 e8971 w8972 => ?_))
              have f8973 := f8968.put' e8971 g1 rfl
              have k8974 : H8970 r1 8 = z8926 := wq_u_s e8971
              refine wp_of e22 c22_88 (rw_aload_n (pc' := 89) (v := .ref r1) rfl rfl rfl ?_)
              refine wp_of e22 c22_89 (rw_iload (pc' := 91) (z := z8961) rfl rfl ?_)
              refine wp_of e22 c22_91 (xp_I (pc' := 94) lf_1_129 w8972 g1 sh_27 (by decide) (by decide) ty_27_9 rfl rfl (by omega) (by omega) ⟨by omega, by omega⟩ rfl (fun H8975 e8976 w8977 => ?_))
              have f8978 := f8973.put' e8976 g1 rfl
              have k8979 : H8975 r1 9 = z8961 := wq_u_s e8976
              refine wp_of e22 c22_94 (rw_iconst (pc' := 95) rfl ?_)
              exact wp_zreturn e22 c22_95 rfl (by omega) ⟨rfl, w8977, f8978, 1, rfl, ⟨by omega, by omega⟩⟩
            · refine wp_of e22 c22_76 (rw_iconst (pc' := 77) rfl ?_)
              exact wp_zreturn e22 c22_77 rfl (by omega) ⟨rfl, w8958, f8963, 0, rfl, ⟨by omega, by omega⟩⟩
/-! StrikeAwake$Reader.isName()Z -/
theorem e26 : wq_en 26 = some (1, 1, false, some FieldType.boolean) := rfl
theorem c26_0 : mc_cd 26 0 = some (.aload_n 0, 1) := by decide +kernel
theorem c26_1 : mc_cd 26 1 = some (.getfield 12, 3) := by decide +kernel
theorem c26_4 : mc_cd 26 4 = some (.getfield 38, 3) := by decide +kernel
theorem c26_7 : mc_cd 26 7 = some (.iconst 1, 1) := by decide +kernel
theorem c26_8 : mc_cd 26 8 = some (.if_icmp .ne 14, 3) := by decide +kernel
theorem c26_11 : mc_cd 26 11 = some (.aload_n 0, 1) := by decide +kernel
theorem c26_12 : mc_cd 26 12 = some (.invokevirtual 54, 3) := by decide +kernel
theorem c26_15 : mc_cd 26 15 = some (.ifnonnull 7, 3) := by decide +kernel
theorem c26_18 : mc_cd 26 18 = some (.iconst 1, 1) := by decide +kernel
theorem c26_19 : mc_cd 26 19 = some (.goto 4, 3) := by decide +kernel
theorem c26_22 : mc_cd 26 22 = some (.iconst 0, 1) := by decide +kernel
theorem c26_23 : mc_cd 26 23 = some (.ireturn, 1) := by decide +kernel
abbrev q_26 (r0 : Nat) (T : wq_T) (H : wq_H) : Option Value → wq_T → wq_H → Prop := fun r T' H' => T = T' ∧ H = H' ∧ ∃ z : Int, some (vI z) = r ∧ (0 ≤ z ∧ z ≤ 1)
set_option maxHeartbeats 4000000 in
theorem s_26 {kt : Nat → Option mc_E} {T : wq_T} {H : wq_H} {r0 : Nat} (hW : WT T H) (g0 : T.2.2.2 r0 = some 3) : wpc kt 3 26 [.ref r0] T H (q_26 r0 T H) := by
  refine wp_enter e26 (Nat.le_of_ble_eq_true rfl) rfl ?_
  show wp _ _ 26 0 [(0, .ref r0)] [] _ H _
  refine wp_of e26 c26_0 (rw_aload_n (pc' := 1) (v := .ref r0) rfl rfl rfl ?_)
  refine wp_of e26 c26_1 (xg_R (pc' := 4) lf_1_12 hW g0 sh_3 (by decide) (by decide) ty_3_0 rfl rfl (fun r8997 q8998 g8999 => ?_))
  refine wp_of e26 c26_4 (xg_I (pc' := 7) lf_1_38 hW g8999 sh_4 (by decide) (by decide) ty_4_3 rfl rfl (fun b9000 b9001 => ?_))
  refine wp_of e26 c26_7 (rw_iconst (pc' := 8) rfl ?_)
  refine wp_of e26 c26_8 (rw_icmp_ne (p1 := 22) (p2 := 11) (by decide) rfl ⟨by omega, by omega⟩ ⟨by omega, by omega⟩ (fun c9002 => ?_) (fun c9002 => ?_))
  · refine wp_of e26 c26_22 (rw_iconst (pc' := 23) rfl ?_)
    exact wp_zreturn e26 c26_23 rfl (by omega) ⟨rfl, rfl, 0, rfl, ⟨by omega, by omega⟩⟩
  · refine wp_of e26 c26_11 (rw_aload_n (pc' := 12) (v := .ref r0) rfl rfl rfl ?_)
    refine wp_of e26 c26_12 (xc_V (pc' := 15) (r := r0) (as := []) (st := []) (lm_1_54) rfl rfl (Nat.le_of_ble_eq_true rfl) hW g0 sh_3 (by decide) rfl (by decide) (s_18 hW g0) (fun R9003 T9004 H9005 p9006 => ?_))
    obtain ⟨e9007, e9009, e9008⟩ := p9006
    subst e9007
    subst e9009
    rcases e9008 with e9008 | ⟨r9010, e9008, b9011, b9012⟩
    · subst e9008
      show wp _ _ 26 15 [(0, .ref r0)] [.null] _ H _
      refine wp_of e26 c26_15 (rw_ifnonnull_n (p1 := 22) (p2 := 18) (by decide) rfl ?_)
      refine wp_of e26 c26_18 (rw_iconst (pc' := 19) rfl ?_)
      refine wp_of e26 c26_19 (rw_goto (p1 := 23) (by decide) ?_)
      exact wp_zreturn e26 c26_23 rfl (by omega) ⟨rfl, rfl, 1, rfl, ⟨by omega, by omega⟩⟩
    · subst e9008
      have c9013 : r9010 = 16 ∨ r9010 = 17 ∨ r9010 = 18 ∨ r9010 = 19 ∨ r9010 = 20 ∨ r9010 = 21 ∨ r9010 = 22 ∨ r9010 = 23 ∨ r9010 = 24 ∨ r9010 = 25 ∨ r9010 = 26 := by omega
      rcases c9013 with c9013 | c9013 | c9013 | c9013 | c9013 | c9013 | c9013 | c9013 | c9013 | c9013 | c9013
      · subst c9013
        show wp _ _ 26 15 [(0, .ref r0)] [.ref 16] _ H _
        refine wp_of e26 c26_15 (rw_ifnonnull_r (p1 := 22) (p2 := 18) (by decide) rfl ?_)
        refine wp_of e26 c26_22 (rw_iconst (pc' := 23) rfl ?_)
        exact wp_zreturn e26 c26_23 rfl (by omega) ⟨rfl, rfl, 0, rfl, ⟨by omega, by omega⟩⟩
      · subst c9013
        show wp _ _ 26 15 [(0, .ref r0)] [.ref 17] _ H _
        refine wp_of e26 c26_15 (rw_ifnonnull_r (p1 := 22) (p2 := 18) (by decide) rfl ?_)
        refine wp_of e26 c26_22 (rw_iconst (pc' := 23) rfl ?_)
        exact wp_zreturn e26 c26_23 rfl (by omega) ⟨rfl, rfl, 0, rfl, ⟨by omega, by omega⟩⟩
      · subst c9013
        show wp _ _ 26 15 [(0, .ref r0)] [.ref 18] _ H _
        refine wp_of e26 c26_15 (rw_ifnonnull_r (p1 := 22) (p2 := 18) (by decide) rfl ?_)
        refine wp_of e26 c26_22 (rw_iconst (pc' := 23) rfl ?_)
        exact wp_zreturn e26 c26_23 rfl (by omega) ⟨rfl, rfl, 0, rfl, ⟨by omega, by omega⟩⟩
      · subst c9013
        show wp _ _ 26 15 [(0, .ref r0)] [.ref 19] _ H _
        refine wp_of e26 c26_15 (rw_ifnonnull_r (p1 := 22) (p2 := 18) (by decide) rfl ?_)
        refine wp_of e26 c26_22 (rw_iconst (pc' := 23) rfl ?_)
        exact wp_zreturn e26 c26_23 rfl (by omega) ⟨rfl, rfl, 0, rfl, ⟨by omega, by omega⟩⟩
      · subst c9013
        show wp _ _ 26 15 [(0, .ref r0)] [.ref 20] _ H _
        refine wp_of e26 c26_15 (rw_ifnonnull_r (p1 := 22) (p2 := 18) (by decide) rfl ?_)
        refine wp_of e26 c26_22 (rw_iconst (pc' := 23) rfl ?_)
        exact wp_zreturn e26 c26_23 rfl (by omega) ⟨rfl, rfl, 0, rfl, ⟨by omega, by omega⟩⟩
      · subst c9013
        show wp _ _ 26 15 [(0, .ref r0)] [.ref 21] _ H _
        refine wp_of e26 c26_15 (rw_ifnonnull_r (p1 := 22) (p2 := 18) (by decide) rfl ?_)
        refine wp_of e26 c26_22 (rw_iconst (pc' := 23) rfl ?_)
        exact wp_zreturn e26 c26_23 rfl (by omega) ⟨rfl, rfl, 0, rfl, ⟨by omega, by omega⟩⟩
      · subst c9013
        show wp _ _ 26 15 [(0, .ref r0)] [.ref 22] _ H _
        refine wp_of e26 c26_15 (rw_ifnonnull_r (p1 := 22) (p2 := 18) (by decide) rfl ?_)
        refine wp_of e26 c26_22 (rw_iconst (pc' := 23) rfl ?_)
        exact wp_zreturn e26 c26_23 rfl (by omega) ⟨rfl, rfl, 0, rfl, ⟨by omega, by omega⟩⟩
      · subst c9013
        show wp _ _ 26 15 [(0, .ref r0)] [.ref 23] _ H _
        refine wp_of e26 c26_15 (rw_ifnonnull_r (p1 := 22) (p2 := 18) (by decide) rfl ?_)
        refine wp_of e26 c26_22 (rw_iconst (pc' := 23) rfl ?_)
        exact wp_zreturn e26 c26_23 rfl (by omega) ⟨rfl, rfl, 0, rfl, ⟨by omega, by omega⟩⟩
      · subst c9013
        show wp _ _ 26 15 [(0, .ref r0)] [.ref 24] _ H _
        refine wp_of e26 c26_15 (rw_ifnonnull_r (p1 := 22) (p2 := 18) (by decide) rfl ?_)
        refine wp_of e26 c26_22 (rw_iconst (pc' := 23) rfl ?_)
        exact wp_zreturn e26 c26_23 rfl (by omega) ⟨rfl, rfl, 0, rfl, ⟨by omega, by omega⟩⟩
      · subst c9013
        show wp _ _ 26 15 [(0, .ref r0)] [.ref 25] _ H _
        refine wp_of e26 c26_15 (rw_ifnonnull_r (p1 := 22) (p2 := 18) (by decide) rfl ?_)
        refine wp_of e26 c26_22 (rw_iconst (pc' := 23) rfl ?_)
        exact wp_zreturn e26 c26_23 rfl (by omega) ⟨rfl, rfl, 0, rfl, ⟨by omega, by omega⟩⟩
      · subst c9013
        show wp _ _ 26 15 [(0, .ref r0)] [.ref 26] _ H _
        refine wp_of e26 c26_15 (rw_ifnonnull_r (p1 := 22) (p2 := 18) (by decide) rfl ?_)
        refine wp_of e26 c26_22 (rw_iconst (pc' := 23) rfl ?_)
        exact wp_zreturn e26 c26_23 rfl (by omega) ⟨rfl, rfl, 0, rfl, ⟨by omega, by omega⟩⟩
/-! StrikeAwake$Parish.personNamed(J)I -/
theorem e27 : wq_en 27 = some (7, 4, false, some FieldType.int) := rfl
theorem c27_0 : mc_cd 27 0 = some (.iconst 0, 1) := by decide +kernel
theorem c27_1 : mc_cd 27 1 = some (.istore_n 3, 1) := by decide +kernel
theorem c27_2 : mc_cd 27 2 = some (.iload_n 3, 1) := by decide +kernel
theorem c27_3 : mc_cd 27 3 = some (.aload_n 0, 1) := by decide +kernel
theorem c27_4 : mc_cd 27 4 = some (.getfield 50, 3) := by decide +kernel
theorem c27_7 : mc_cd 27 7 = some (.if_icmp .ge 25, 3) := by decide +kernel
theorem c27_10 : mc_cd 27 10 = some (.aload_n 0, 1) := by decide +kernel
theorem c27_11 : mc_cd 27 11 = some (.getfield 11, 3) := by decide +kernel
theorem c27_14 : mc_cd 27 14 = some (.iload_n 3, 1) := by decide +kernel
theorem c27_15 : mc_cd 27 15 = some (.aaload, 1) := by decide +kernel
theorem c27_16 : mc_cd 27 16 = some (.getfield 86, 3) := by decide +kernel
theorem c27_19 : mc_cd 27 19 = some (.lload_n 1, 1) := by decide +kernel
theorem c27_20 : mc_cd 27 20 = some (.lcmp, 1) := by decide +kernel
theorem c27_21 : mc_cd 27 21 = some (.ifCond .ne 5, 3) := by decide +kernel
theorem c27_24 : mc_cd 27 24 = some (.iload_n 3, 1) := by decide +kernel
theorem c27_25 : mc_cd 27 25 = some (.ireturn, 1) := by decide +kernel
theorem c27_26 : mc_cd 27 26 = some (.iinc 3 1, 3) := by decide +kernel
theorem c27_29 : mc_cd 27 29 = some (.goto (-27), 3) := by decide +kernel
theorem c27_32 : mc_cd 27 32 = some (.iconst (-1), 1) := by decide +kernel
theorem c27_33 : mc_cd 27 33 = some (.ireturn, 1) := by decide +kernel
abbrev q_27 (r0 : Nat) (a1 : Int) (T : wq_T) (H : wq_H) : Option Value → wq_T → wq_H → Prop := fun r T' H' => T = T' ∧ H = H' ∧ ∃ z : Int, some (vI z) = r ∧ ((-1) ≤ z ∧ z ≤ 5)
set_option maxHeartbeats 4000000 in
theorem s_27 {kt : Nat → Option mc_E} {T : wq_T} {H : wq_H} {r0 : Nat} {a1 : Int} (hW : WT T H) (g0 : T.2.2.2 r0 = some 27) (i1 : (-9223372036854775808) ≤ a1 ∧ a1 ≤ 9223372036854775807) : wpc kt 1 27 [.ref r0, vL a1] T H (q_27 r0 a1 T H) := by
  refine wp_enter e27 (Nat.le_of_ble_eq_true rfl) rfl ?_
  show wp _ _ 27 0 [(0, .ref r0), (1, vL a1)] [] _ H _
  refine wp_of e27 c27_0 (rw_iconst (pc' := 1) rfl ?_)
  refine wp_of e27 c27_1 (rw_istore_n (pc' := 2) (z := 0) (L' := [(3, vI 0), (0, .ref r0), (1, vL a1)]) rfl rfl rfl ?_)
  have lp9210 : ∀ (n9211 : Nat) (v9213 : Int), (0 ≤ v9213 ∧ v9213 ≤ 6) → (6 - v9213).toNat = n9211 → wp kt 0 27 2 [(3, vI v9213), (0, .ref r0), (1, vL a1)] [] T H (q_27 r0 a1 T H) := by
    intro n9211
    induction n9211 using Nat.strongRecOn with
    | _ n9211 ih9212 =>
      intro v9213 b9216 m9217
      refine wp_of e27 c27_2 (rw_iload_n (pc' := 3) (z := v9213) rfl rfl ?_)
      refine wp_of e27 c27_3 (rw_aload_n (pc' := 4) (v := .ref r0) rfl rfl rfl ?_)
      refine wp_of e27 c27_4 (xg_I (pc' := 7) lf_7_50 hW g0 sh_27 (by decide) (by decide) ty_27_10 rfl rfl (fun b9218 b9219 => ?_))
      refine wp_of e27 c27_7 (rw_icmp_ge (p1 := 32) (p2 := 10) (by decide) rfl ⟨by omega, by omega⟩ ⟨by omega, by omega⟩ (fun c9220 => ?_) (fun c9220 => ?_))
      · refine wp_of e27 c27_32 (rw_iconst (pc' := 33) rfl ?_)
        exact wp_ireturn e27 c27_33 rfl ⟨rfl, rfl, -1, rfl, ⟨by omega, by omega⟩⟩
      · refine wp_of e27 c27_10 (rw_aload_n (pc' := 11) (v := .ref r0) rfl rfl rfl ?_)
        refine wp_of e27 c27_11 (xg_R (pc' := 14) lf_7_11 hW g0 sh_27 (by decide) (by decide) ty_27_0 rfl rfl (fun r9221 q9222 g9223 => ?_))
        refine wp_of e27 c27_14 (rw_iload_n (pc' := 15) (z := v9213) rfl rfl ?_)
        refine wp_of e27 c27_15 (xa_R (pc' := 16) (by decide) hW g9223 sh_28 (by decide) (ty_28 _) (by omega) (by omega) rfl (fun r9224 q9225 g9226 => ?_))
        refine wp_of e27 c27_16 (xg_L (pc' := 19) lf_7_86 hW g9226 sh_35 (by decide) (by decide) ty_35_6 rfl rfl (fun b9227 b9228 => ?_))
        refine wp_of e27 c27_19 (rw_lload_n (pc' := 20) (z := a1) rfl rfl ?_)
        refine wp_of e27 c27_20 (rw_lcmp (pc' := 21) rfl ⟨by omega, by omega⟩ ⟨by omega, by omega⟩ ?_)
        have b9229 := wq_cmp_b (H r9224 6) a1
        refine wp_of e27 c27_21 (rw_if_ne (p1 := 26) (p2 := 24) (by decide) rfl ⟨by omega, by omega⟩ (fun c9230 => ?_) (fun c9230 => ?_))
        · refine wp_of e27 c27_26 (rw_iinc (pc' := 29) (z := v9213) (L' := [(3, vI (v9213 + 1)), (0, .ref r0), (1, vL a1)]) rfl rfl rfl rfl ?_)
          refine wp_of e27 c27_29 (rw_goto (p1 := 2) (by decide) ?_)
          exact wp_lc (ks := [3, 0, 1]) (wl_c rfl (wl_c rfl (wl_c rfl wl_n))) rfl (by decide) (ih9212 _ (by omega) (v9213 + 1) ⟨by omega, by omega⟩ rfl)
        · refine wp_of e27 c27_24 (rw_iload_n (pc' := 25) (z := v9213) rfl rfl ?_)
          exact wp_ireturn e27 c27_25 rfl ⟨rfl, rfl, v9213, rfl, ⟨by omega, by omega⟩⟩
  exact wp_lc (ks := [3, 0, 1]) (wl_c rfl (wl_c rfl (wl_c rfl wl_n))) rfl (by decide) (lp9210 _ 0 ⟨by omega, by omega⟩ rfl)
/-! StrikeAwake$Person.clear(J)V -/
theorem e28 : wq_en 28 = some (8, 3, false, none) := rfl
theorem c28_0 : mc_cd 28 0 = some (.aload_n 0, 1) := by decide +kernel
theorem c28_1 : mc_cd 28 1 = some (.lload_n 1, 1) := by decide +kernel
theorem c28_2 : mc_cd 28 2 = some (.putfield 31, 3) := by decide +kernel
theorem c28_5 : mc_cd 28 5 = some (.aload_n 0, 1) := by decide +kernel
theorem c28_6 : mc_cd 28 6 = some (.iconst (-1), 1) := by decide +kernel
theorem c28_7 : mc_cd 28 7 = some (.putfield 35, 3) := by decide +kernel
theorem c28_10 : mc_cd 28 10 = some (.aload_n 0, 1) := by decide +kernel
theorem c28_11 : mc_cd 28 11 = some (.iconst 0, 1) := by decide +kernel
theorem c28_12 : mc_cd 28 12 = some (.putfield 39, 3) := by decide +kernel
theorem c28_15 : mc_cd 28 15 = some (.aload_n 0, 1) := by decide +kernel
theorem c28_16 : mc_cd 28 16 = some (.iconst 0, 1) := by decide +kernel
theorem c28_17 : mc_cd 28 17 = some (.putfield 42, 3) := by decide +kernel
theorem c28_20 : mc_cd 28 20 = some (.aload_n 0, 1) := by decide +kernel
theorem c28_21 : mc_cd 28 21 = some (.iconst 0, 1) := by decide +kernel
theorem c28_22 : mc_cd 28 22 = some (.putfield 46, 3) := by decide +kernel
theorem c28_25 : mc_cd 28 25 = some (.aload_n 0, 1) := by decide +kernel
theorem c28_26 : mc_cd 28 26 = some (.iconst 0, 1) := by decide +kernel
theorem c28_27 : mc_cd 28 27 = some (.putfield 49, 3) := by decide +kernel
theorem c28_30 : mc_cd 28 30 = some (.aload_n 0, 1) := by decide +kernel
theorem c28_31 : mc_cd 28 31 = some (.iconst 0, 1) := by decide +kernel
theorem c28_32 : mc_cd 28 32 = some (.putfield 52, 3) := by decide +kernel
theorem c28_35 : mc_cd 28 35 = some (.aload_n 0, 1) := by decide +kernel
theorem c28_36 : mc_cd 28 36 = some (.iconst 0, 1) := by decide +kernel
theorem c28_37 : mc_cd 28 37 = some (.putfield 55, 3) := by decide +kernel
theorem c28_40 : mc_cd 28 40 = some (.return_, 1) := by decide +kernel
abbrev q_28 (r0 : Nat) (a1 : Int) (T : wq_T) (H : wq_H) : Option Value → wq_T → wq_H → Prop := fun r T' H' => T = T' ∧ WT T H' ∧ wfr [(35, 6), (35, 11), (35, 12), (35, 13), (35, 14), (35, 15), (35, 16), (35, 17)] T H H' ∧ none = r
set_option maxHeartbeats 4000000 in
theorem s_28 {kt : Nat → Option mc_E} {T : wq_T} {H : wq_H} {r0 : Nat} {a1 : Int} (hW : WT T H) (g0 : T.2.2.2 r0 = some 35) (i1 : (-9223372036854775808) ≤ a1 ∧ a1 ≤ 9223372036854775807) : wpc kt 1 28 [.ref r0, vL a1] T H (q_28 r0 a1 T H) := by
  refine wp_enter e28 (Nat.le_of_ble_eq_true rfl) rfl ?_
  have f0 : wfr [(35, 6), (35, 11), (35, 12), (35, 13), (35, 14), (35, 15), (35, 16), (35, 17)] T H H := wfr.rf
  show wp _ _ 28 0 [(0, .ref r0), (1, vL a1)] [] _ H _
  refine wp_of e28 c28_0 (rw_aload_n (pc' := 1) (v := .ref r0) rfl rfl rfl ?_)
  refine wp_of e28 c28_1 (rw_lload_n (pc' := 2) (z := a1) rfl rfl ?_)
  refine wp_of e28 c28_2 (xp_L (pc' := 5) lf_8_31 hW g0 sh_35 (by decide) (by decide) ty_35_6 rfl rfl (by omega) (by omega) ⟨by omega, by omega⟩ rfl (fun H9271 e9272 w9273 => ?_))
  have f9274 := f0.put' e9272 g0 rfl
  have k9275 : H9271 r0 6 = a1 := wq_u_s e9272
  refine wp_of e28 c28_5 (rw_aload_n (pc' := 6) (v := .ref r0) rfl rfl rfl ?_)
  refine wp_of e28 c28_6 (rw_iconst (pc' := 7) rfl ?_)
  refine wp_of e28 c28_7 (xp_I (pc' := 10) lf_8_35 w9273 g0 sh_35 (by decide) (by decide) ty_35_11 rfl rfl (by omega) (by omega) ⟨by omega, by omega⟩ rfl (fun H9276 e9277 w9278 => ?_))
  have f9279 := f9274.put' e9277 g0 rfl
  have k9280 : H9276 r0 11 = -1 := wq_u_s e9277
  refine wp_of e28 c28_10 (rw_aload_n (pc' := 11) (v := .ref r0) rfl rfl rfl ?_)
  refine wp_of e28 c28_11 (rw_iconst (pc' := 12) rfl ?_)
  refine wp_of e28 c28_12 (xp_I (pc' := 15) lf_8_39 w9278 g0 sh_35 (by decide) (by decide) ty_35_12 rfl rfl (by omega) (by omega) ⟨by omega, by omega⟩ rfl (fun H9281 e9282 w9283 => ?_))
  have f9284 := f9279.put' e9282 g0 rfl
  have k9285 : H9281 r0 12 = 0 := wq_u_s e9282
  refine wp_of e28 c28_15 (rw_aload_n (pc' := 16) (v := .ref r0) rfl rfl rfl ?_)
  refine wp_of e28 c28_16 (rw_iconst (pc' := 17) rfl ?_)
  refine wp_of e28 c28_17 (xp_Z (pc' := 20) lf_8_42 w9283 g0 sh_35 (by decide) (by decide) ty_35_13 rfl rfl (by omega) (by omega) rfl (fun H9286 e9287 w9288 => ?_))
  have f9289 := f9284.put' e9287 g0 rfl
  have k9290 : H9286 r0 13 = 0 := wq_u_s e9287
  refine wp_of e28 c28_20 (rw_aload_n (pc' := 21) (v := .ref r0) rfl rfl rfl ?_)
  refine wp_of e28 c28_21 (rw_iconst (pc' := 22) rfl ?_)
  refine wp_of e28 c28_22 (xp_I (pc' := 25) lf_8_46 w9288 g0 sh_35 (by decide) (by decide) ty_35_14 rfl rfl (by omega) (by omega) ⟨by omega, by omega⟩ rfl (fun H9291 e9292 w9293 => ?_))
  have f9294 := f9289.put' e9292 g0 rfl
  have k9295 : H9291 r0 14 = 0 := wq_u_s e9292
  refine wp_of e28 c28_25 (rw_aload_n (pc' := 26) (v := .ref r0) rfl rfl rfl ?_)
  refine wp_of e28 c28_26 (rw_iconst (pc' := 27) rfl ?_)
  refine wp_of e28 c28_27 (xp_I (pc' := 30) lf_8_49 w9293 g0 sh_35 (by decide) (by decide) ty_35_15 rfl rfl (by omega) (by omega) ⟨by omega, by omega⟩ rfl (fun H9296 e9297 w9298 => ?_))
  have f9299 := f9294.put' e9297 g0 rfl
  have k9300 : H9296 r0 15 = 0 := wq_u_s e9297
  refine wp_of e28 c28_30 (rw_aload_n (pc' := 31) (v := .ref r0) rfl rfl rfl ?_)
  refine wp_of e28 c28_31 (rw_iconst (pc' := 32) rfl ?_)
  refine wp_of e28 c28_32 (xp_I (pc' := 35) lf_8_52 w9298 g0 sh_35 (by decide) (by decide) ty_35_16 rfl rfl (by omega) (by omega) ⟨by omega, by omega⟩ rfl (fun H9301 e9302 w9303 => ?_))
  have f9304 := f9299.put' e9302 g0 rfl
  have k9305 : H9301 r0 16 = 0 := wq_u_s e9302
  refine wp_of e28 c28_35 (rw_aload_n (pc' := 36) (v := .ref r0) rfl rfl rfl ?_)
  refine wp_of e28 c28_36 (rw_iconst (pc' := 37) rfl ?_)
  refine wp_of e28 c28_37 (xp_I (pc' := 40) lf_8_55 w9303 g0 sh_35 (by decide) (by decide) ty_35_17 rfl rfl (by omega) (by omega) ⟨by omega, by omega⟩ rfl (fun H9306 e9307 w9308 => ?_))
  have f9309 := f9304.put' e9307 g0 rfl
  have k9310 : H9306 r0 17 = 0 := wq_u_s e9307
  exact wp_return e28 c28_40 rfl ⟨rfl, w9308, f9309, rfl⟩
/-! StrikeAwake$Reader.takesRange(IIII)Z -/
theorem e29 : wq_en 29 = some (1, 5, false, some FieldType.boolean) := rfl
theorem c29_0 : mc_cd 29 0 = some (.aload_n 0, 1) := by decide +kernel
theorem c29_1 : mc_cd 29 1 = some (.aload_n 0, 1) := by decide +kernel
theorem c29_2 : mc_cd 29 2 = some (.iconst 0, 1) := by decide +kernel
theorem c29_3 : mc_cd 29 3 = some (.iload_n 1, 1) := by decide +kernel
theorem c29_4 : mc_cd 29 4 = some (.invokevirtual 119, 3) := by decide +kernel
theorem c29_7 : mc_cd 29 7 = some (.putfield 158, 3) := by decide +kernel
theorem c29_10 : mc_cd 29 10 = some (.aload_n 0, 1) := by decide +kernel
theorem c29_11 : mc_cd 29 11 = some (.getfield 158, 3) := by decide +kernel
theorem c29_14 : mc_cd 29 14 = some (.ifCond .lt 13, 3) := by decide +kernel
theorem c29_17 : mc_cd 29 17 = some (.aload_n 0, 1) := by decide +kernel
theorem c29_18 : mc_cd 29 18 = some (.ldc_w 262, 3) := by decide +kernel
theorem c29_21 : mc_cd 29 21 = some (.invokevirtual 115, 3) := by decide +kernel
theorem c29_24 : mc_cd 29 24 = some (.ifCond .ne 5, 3) := by decide +kernel
theorem c29_27 : mc_cd 29 27 = some (.iconst 0, 1) := by decide +kernel
theorem c29_28 : mc_cd 29 28 = some (.ireturn, 1) := by decide +kernel
theorem c29_29 : mc_cd 29 29 = some (.aload_n 0, 1) := by decide +kernel
theorem c29_30 : mc_cd 29 30 = some (.aload_n 0, 1) := by decide +kernel
theorem c29_31 : mc_cd 29 31 = some (.aload_n 0, 1) := by decide +kernel
theorem c29_32 : mc_cd 29 32 = some (.getfield 158, 3) := by decide +kernel
theorem c29_35 : mc_cd 29 35 = some (.iload_n 2, 1) := by decide +kernel
theorem c29_36 : mc_cd 29 36 = some (.iadd, 1) := by decide +kernel
theorem c29_37 : mc_cd 29 37 = some (.aload_n 0, 1) := by decide +kernel
theorem c29_38 : mc_cd 29 38 = some (.getfield 158, 3) := by decide +kernel
theorem c29_41 : mc_cd 29 41 = some (.iload_n 3, 1) := by decide +kernel
theorem c29_42 : mc_cd 29 42 = some (.iadd, 1) := by decide +kernel
theorem c29_43 : mc_cd 29 43 = some (.iload 4, 2) := by decide +kernel
theorem c29_45 : mc_cd 29 45 = some (.invokestatic 263, 3) := by decide +kernel
theorem c29_48 : mc_cd 29 48 = some (.invokevirtual 119, 3) := by decide +kernel
theorem c29_51 : mc_cd 29 51 = some (.putfield 164, 3) := by decide +kernel
theorem c29_54 : mc_cd 29 54 = some (.aload_n 0, 1) := by decide +kernel
theorem c29_55 : mc_cd 29 55 = some (.getfield 164, 3) := by decide +kernel
theorem c29_58 : mc_cd 29 58 = some (.ifCond .lt 7, 3) := by decide +kernel
theorem c29_61 : mc_cd 29 61 = some (.iconst 1, 1) := by decide +kernel
theorem c29_62 : mc_cd 29 62 = some (.goto 4, 3) := by decide +kernel
theorem c29_65 : mc_cd 29 65 = some (.iconst 0, 1) := by decide +kernel
theorem c29_66 : mc_cd 29 66 = some (.ireturn, 1) := by decide +kernel
abbrev q_29 (r0 : Nat) (a1 : Int) (a2 : Int) (a3 : Int) (a4 : Int) (tk : Nat) (rb : Nat) (T : wq_T) (H : wq_H) : Option Value → wq_T → wq_H → Prop := fun r T' H' => T = T' ∧ WT T H' ∧ wfr [(3, 1), (3, 2), (3, 3), (3, 4), (4, 2), (4, 3), (4, 4), (4, 5), (4, 6)] T H H' ∧ ∃ z : Int, some (vI z) = r ∧ (0 ≤ z ∧ z ≤ 1)
set_option maxHeartbeats 4000000 in
theorem s_29 {kt : Nat → Option mc_E} {T : wq_T} {H : wq_H} {r0 : Nat} {a1 : Int} {a2 : Int} {a3 : Int} {a4 : Int} {tk : Nat} {rb : Nat} (hW : WT T H) (g0 : T.2.2.2 r0 = some 3) (i1 : 0 ≤ a1 ∧ a1 ≤ 23) (i2 : 0 ≤ a2 ∧ a2 ≤ 1) (i3 : 0 ≤ a3 ∧ a3 ≤ 24) (i4 : 0 ≤ a4 ∧ a4 ≤ 24) (qtk : H r0 0 = (tk : Int)) (gtk : T.2.2.2 tk = some 4) (qrb : H tk 0 = (rb : Int)) (grb : T.2.2.2 rb = some 2) : wpc kt 3 29 [.ref r0, vI a1, vI a2, vI a3, vI a4] T H (q_29 r0 a1 a2 a3 a4 tk rb T H) := by
  refine wp_enter e29 (Nat.le_of_ble_eq_true rfl) rfl ?_
  have f0 : wfr [(3, 1), (3, 2), (3, 3), (3, 4), (4, 2), (4, 3), (4, 4), (4, 5), (4, 6)] T H H := wfr.rf
  show wp _ _ 29 0 [(0, .ref r0), (1, vI a1), (2, vI a2), (3, vI a3), (4, vI a4)] [] _ H _
  refine wp_of e29 c29_0 (rw_aload_n (pc' := 1) (v := .ref r0) rfl rfl rfl ?_)
  refine wp_of e29 c29_1 (rw_aload_n (pc' := 2) (v := .ref r0) rfl rfl rfl ?_)
  refine wp_of e29 c29_2 (rw_iconst (pc' := 3) rfl ?_)
  refine wp_of e29 c29_3 (rw_iload_n (pc' := 4) (z := a1) rfl rfl ?_)
  refine wp_of e29 c29_4 (xc_V (pc' := 7) (r := r0) (as := [vI 0, vI a1]) (st := [.ref r0]) (lm_1_119) rfl rfl (Nat.le_of_ble_eq_true rfl) hW g0 sh_3 (by decide) rfl (by decide) (s_24 hW g0 ⟨by omega, by omega⟩ ⟨by omega, by omega⟩ qtk gtk qrb grb) (fun R9378 T9379 H9380 p9381 => ?_))
  obtain ⟨e9382, w9384, f9385, z9387, e9383, b9388, p9386⟩ := p9381
  subst e9382
  subst e9383
  have f9389 := f0.tr f9385 rfl
  show wp _ _ 29 7 [(0, .ref r0), (1, vI a1), (2, vI a2), (3, vI a3), (4, vI a4)] [vI z9387, .ref r0] _ H9380 _
  refine wp_of e29 c29_7 (xp_I (pc' := 10) lf_1_158 w9384 g0 sh_3 (by decide) (by decide) ty_3_1 rfl rfl (by omega) (by omega) ⟨by omega, by omega⟩ rfl (fun H9390 e9391 w9392 => ?_))
  have f9393 := f9389.put' e9391 g0 rfl
  have k9394 : H9390 r0 1 = z9387 := wq_u_s e9391
  refine wp_of e29 c29_10 (rw_aload_n (pc' := 11) (v := .ref r0) rfl rfl rfl ?_)
  refine wp_of e29 c29_11 (xg_I (pc' := 14) lf_1_158 w9392 g0 sh_3 (by decide) (by decide) ty_3_1 rfl rfl (fun b9395 b9396 => ?_))
  refine wp_of e29 c29_14 (rw_if_lt (p1 := 27) (p2 := 17) (by decide) rfl ⟨by omega, by omega⟩ (fun c9397 => ?_) (fun c9397 => ?_))
  · refine wp_of e29 c29_27 (rw_iconst (pc' := 28) rfl ?_)
    exact wp_zreturn e29 c29_28 rfl (by omega) ⟨rfl, w9392, f9393, 0, rfl, ⟨by omega, by omega⟩⟩
  · refine wp_of e29 c29_17 (rw_aload_n (pc' := 18) (v := .ref r0) rfl rfl rfl ?_)
    refine wp_of e29 c29_18 (rw_ldc_wS (pc' := 21) (k := 68) rfl rfl rfl rfl ?_)
    have k9398 : H9390 r0 0 = H r0 0 := ((wq_u_j e9391 rfl).trans (f9385 r0 0 _ g0 rfl))
    have q9399 : H9390 r0 0 = (tk : Int) := k9398.trans qtk
    have k9400 : H9390 tk 0 = H tk 0 := ((wq_u_t e9391 g0 gtk rfl 0).trans (f9385 tk 0 _ gtk rfl))
    have q9401 : H9390 tk 0 = (rb : Int) := k9400.trans qrb
    refine wp_of e29 c29_21 (xc_V (pc' := 24) (r := r0) (as := [.ref 68]) (st := []) (lm_1_115) rfl rfl (Nat.le_of_ble_eq_true rfl) w9392 g0 sh_3 (by decide) rfl (by decide) (s_23 w9392 g0 rfl q9399 gtk q9401 grb) (fun R9402 T9403 H9404 p9405 => ?_))
    obtain ⟨e9406, w9408, f9409, z9410, e9407, b9411⟩ := p9405
    subst e9406
    subst e9407
    have f9412 := f9393.tr f9409 rfl
    show wp _ _ 29 24 [(0, .ref r0), (1, vI a1), (2, vI a2), (3, vI a3), (4, vI a4)] [vI z9410] _ H9404 _
    refine wp_of e29 c29_24 (rw_if_ne (p1 := 29) (p2 := 27) (by decide) rfl ⟨by omega, by omega⟩ (fun c9413 => ?_) (fun c9413 => ?_))
    · refine wp_of e29 c29_29 (rw_aload_n (pc' := 30) (v := .ref r0) rfl rfl rfl ?_)
      refine wp_of e29 c29_30 (rw_aload_n (pc' := 31) (v := .ref r0) rfl rfl rfl ?_)
      refine wp_of e29 c29_31 (rw_aload_n (pc' := 32) (v := .ref r0) rfl rfl rfl ?_)
      have k9414 : H9404 r0 1 = H9390 r0 1 := (f9409 r0 1 _ g0 rfl)
      refine wp_of e29 c29_32 (xg_I (pc' := 35) lf_1_158 w9408 g0 sh_3 (by decide) (by decide) ty_3_1 rfl rfl (fun b9415 b9416 => ?_))
      refine wp_of e29 c29_35 (rw_iload_n (pc' := 36) (z := a2) rfl rfl ?_)
      refine wp_of e29 c29_36 (rw_iadd (pc' := 37) rfl ?_)
      refine wp_of e29 c29_37 (rw_aload_n (pc' := 38) (v := .ref r0) rfl rfl rfl ?_)
      refine wp_of e29 c29_38 (xg_I (pc' := 41) lf_1_158 w9408 g0 sh_3 (by decide) (by decide) ty_3_1 rfl rfl (fun b9417 b9418 => ?_))
      refine wp_of e29 c29_41 (rw_iload_n (pc' := 42) (z := a3) rfl rfl ?_)
      refine wp_of e29 c29_42 (rw_iadd (pc' := 43) rfl ?_)
      refine wp_of e29 c29_43 (rw_iload (pc' := 45) (z := a4) rfl rfl ?_)
      refine wp_of e29 c29_45 (rw_math2 (pc' := 48) (z := min ((H9404 r0 1) + a3) a4) rfl rfl ⟨by omega, by omega⟩ ⟨by omega, by omega⟩ (Or.inl ⟨rfl, rfl⟩) (Nat.le_of_ble_eq_true rfl) rfl ?_)
      obtain ⟨v9419, e9420⟩ : ∃ x : Int, x = min ((H9404 r0 1) + a3) a4 := ⟨_, rfl⟩
      rw [← e9420]
      have b9421 : v9419 = ((H9404 r0 1) + a3) ∨ v9419 = a4 := by
        rw [e9420]
        omega
      have b9422 : v9419 ≤ ((H9404 r0 1) + a3) ∧ v9419 ≤ a4 := by
        rw [e9420]
        omega
      have k9423 : H9404 r0 0 = H9390 r0 0 := (f9409 r0 0 _ g0 rfl)
      have q9424 : H9404 r0 0 = (tk : Int) := k9423.trans q9399
      have k9425 : H9404 tk 0 = H9390 tk 0 := (f9409 tk 0 _ gtk rfl)
      have q9426 : H9404 tk 0 = (rb : Int) := k9425.trans q9401
      refine wp_of e29 c29_48 (xc_V (pc' := 51) (r := r0) (as := [vI ((H9404 r0 1) + a2), vI v9419]) (st := [.ref r0]) (lm_1_119) rfl rfl (Nat.le_of_ble_eq_true rfl) w9408 g0 sh_3 (by decide) rfl (by decide) (s_24 w9408 g0 ⟨by omega, by omega⟩ ⟨by omega, by omega⟩ q9424 gtk q9426 grb) (fun R9427 T9428 H9429 p9430 => ?_))
      obtain ⟨e9431, w9433, f9434, z9436, e9432, b9437, p9435⟩ := p9430
      subst e9431
      subst e9432
      have f9438 := f9412.tr f9434 rfl
      show wp _ _ 29 51 [(0, .ref r0), (1, vI a1), (2, vI a2), (3, vI a3), (4, vI a4)] [vI z9436, .ref r0] _ H9429 _
      refine wp_of e29 c29_51 (xp_I (pc' := 54) lf_1_164 w9433 g0 sh_3 (by decide) (by decide) ty_3_2 rfl rfl (by omega) (by omega) ⟨by omega, by omega⟩ rfl (fun H9439 e9440 w9441 => ?_))
      have f9442 := f9438.put' e9440 g0 rfl
      have k9443 : H9439 r0 2 = z9436 := wq_u_s e9440
      refine wp_of e29 c29_54 (rw_aload_n (pc' := 55) (v := .ref r0) rfl rfl rfl ?_)
      refine wp_of e29 c29_55 (xg_I (pc' := 58) lf_1_164 w9441 g0 sh_3 (by decide) (by decide) ty_3_2 rfl rfl (fun b9444 b9445 => ?_))
      refine wp_of e29 c29_58 (rw_if_lt (p1 := 65) (p2 := 61) (by decide) rfl ⟨by omega, by omega⟩ (fun c9446 => ?_) (fun c9446 => ?_))
      · refine wp_of e29 c29_65 (rw_iconst (pc' := 66) rfl ?_)
        exact wp_zreturn e29 c29_66 rfl (by omega) ⟨rfl, w9441, f9442, 0, rfl, ⟨by omega, by omega⟩⟩
      · refine wp_of e29 c29_61 (rw_iconst (pc' := 62) rfl ?_)
        refine wp_of e29 c29_62 (rw_goto (p1 := 66) (by decide) ?_)
        exact wp_zreturn e29 c29_66 rfl (by omega) ⟨rfl, w9441, f9442, 1, rfl, ⟨by omega, by omega⟩⟩
    · refine wp_of e29 c29_27 (rw_iconst (pc' := 28) rfl ?_)
      exact wp_zreturn e29 c29_28 rfl (by omega) ⟨rfl, w9408, f9412, 0, rfl, ⟨by omega, by omega⟩⟩
/-! StrikeAwake$Reader.readsPerson(LStrikeAwake$Parish;)Z -/
theorem e25 : wq_en 25 = some (1, 3, false, some FieldType.boolean) := rfl
theorem c25_0 : mc_cd 25 0 = some (.aload_n 0, 1) := by decide +kernel
theorem c25_1 : mc_cd 25 1 = some (.invokevirtual 131, 3) := by decide +kernel
theorem c25_4 : mc_cd 25 4 = some (.ifCond .ne 9, 3) := by decide +kernel
theorem c25_7 : mc_cd 25 7 = some (.aload_n 0, 1) := by decide +kernel
theorem c25_8 : mc_cd 25 8 = some (.iconst 1, 1) := by decide +kernel
theorem c25_9 : mc_cd 25 9 = some (.invokevirtual 47, 3) := by decide +kernel
theorem c25_12 : mc_cd 25 12 = some (.ireturn, 1) := by decide +kernel
theorem c25_13 : mc_cd 25 13 = some (.aload_n 1, 1) := by decide +kernel
theorem c25_14 : mc_cd 25 14 = some (.aload_n 0, 1) := by decide +kernel
theorem c25_15 : mc_cd 25 15 = some (.getfield 12, 3) := by decide +kernel
theorem c25_18 : mc_cd 25 18 = some (.getfield 135, 3) := by decide +kernel
theorem c25_21 : mc_cd 25 21 = some (.invokevirtual 139, 3) := by decide +kernel
theorem c25_24 : mc_cd 25 24 = some (.ifCond .lt 9, 3) := by decide +kernel
theorem c25_27 : mc_cd 25 27 = some (.aload_n 0, 1) := by decide +kernel
theorem c25_28 : mc_cd 25 28 = some (.iconst 3, 1) := by decide +kernel
theorem c25_29 : mc_cd 25 29 = some (.invokevirtual 47, 3) := by decide +kernel
theorem c25_32 : mc_cd 25 32 = some (.ireturn, 1) := by decide +kernel
theorem c25_33 : mc_cd 25 33 = some (.aload_n 1, 1) := by decide +kernel
theorem c25_34 : mc_cd 25 34 = some (.getfield 143, 3) := by decide +kernel
theorem c25_37 : mc_cd 25 37 = some (.aload_n 1, 1) := by decide +kernel
theorem c25_38 : mc_cd 25 38 = some (.getfield 44, 3) := by decide +kernel
theorem c25_41 : mc_cd 25 41 = some (.aaload, 1) := by decide +kernel
theorem c25_42 : mc_cd 25 42 = some (.astore_n 2, 1) := by decide +kernel
theorem c25_43 : mc_cd 25 43 = some (.aload_n 2, 1) := by decide +kernel
theorem c25_44 : mc_cd 25 44 = some (.aload_n 0, 1) := by decide +kernel
theorem c25_45 : mc_cd 25 45 = some (.getfield 12, 3) := by decide +kernel
theorem c25_48 : mc_cd 25 48 = some (.getfield 135, 3) := by decide +kernel
theorem c25_51 : mc_cd 25 51 = some (.invokevirtual 147, 3) := by decide +kernel
theorem c25_54 : mc_cd 25 54 = some (.aload_n 0, 1) := by decide +kernel
theorem c25_55 : mc_cd 25 55 = some (.getfield 12, 3) := by decide +kernel
theorem c25_58 : mc_cd 25 58 = some (.invokevirtual 74, 3) := by decide +kernel
theorem c25_61 : mc_cd 25 61 = some (.aload_n 0, 1) := by decide +kernel
theorem c25_62 : mc_cd 25 62 = some (.ldc 152, 2) := by decide +kernel
theorem c25_64 : mc_cd 25 64 = some (.invokevirtual 115, 3) := by decide +kernel
theorem c25_67 : mc_cd 25 67 = some (.ifCond .eq 17, 3) := by decide +kernel
theorem c25_70 : mc_cd 25 70 = some (.aload_n 0, 1) := by decide +kernel
theorem c25_71 : mc_cd 25 71 = some (.bipush 23, 2) := by decide +kernel
theorem c25_73 : mc_cd 25 73 = some (.iconst 0, 1) := by decide +kernel
theorem c25_74 : mc_cd 25 74 = some (.bipush 7, 2) := by decide +kernel
theorem c25_76 : mc_cd 25 76 = some (.bipush 23, 2) := by decide +kernel
theorem c25_78 : mc_cd 25 78 = some (.invokevirtual 154, 3) := by decide +kernel
theorem c25_81 : mc_cd 25 81 = some (.ifCond .ne 5, 3) := by decide +kernel
theorem c25_84 : mc_cd 25 84 = some (.iconst 0, 1) := by decide +kernel
theorem c25_85 : mc_cd 25 85 = some (.ireturn, 1) := by decide +kernel
theorem c25_86 : mc_cd 25 86 = some (.aload_n 2, 1) := by decide +kernel
theorem c25_87 : mc_cd 25 87 = some (.aload_n 0, 1) := by decide +kernel
theorem c25_88 : mc_cd 25 88 = some (.getfield 158, 3) := by decide +kernel
theorem c25_91 : mc_cd 25 91 = some (.putfield 161, 3) := by decide +kernel
theorem c25_94 : mc_cd 25 94 = some (.aload_n 2, 1) := by decide +kernel
theorem c25_95 : mc_cd 25 95 = some (.aload_n 0, 1) := by decide +kernel
theorem c25_96 : mc_cd 25 96 = some (.getfield 164, 3) := by decide +kernel
theorem c25_99 : mc_cd 25 99 = some (.putfield 167, 3) := by decide +kernel
theorem c25_102 : mc_cd 25 102 = some (.aload_n 0, 1) := by decide +kernel
theorem c25_103 : mc_cd 25 103 = some (.ldc 170, 2) := by decide +kernel
theorem c25_105 : mc_cd 25 105 = some (.invokevirtual 115, 3) := by decide +kernel
theorem c25_108 : mc_cd 25 108 = some (.ifCond .eq 16, 3) := by decide +kernel
theorem c25_111 : mc_cd 25 111 = some (.aload_n 0, 1) := by decide +kernel
theorem c25_112 : mc_cd 25 112 = some (.bipush 12, 2) := by decide +kernel
theorem c25_114 : mc_cd 25 114 = some (.iconst 0, 1) := by decide +kernel
theorem c25_115 : mc_cd 25 115 = some (.iconst 4, 1) := by decide +kernel
theorem c25_116 : mc_cd 25 116 = some (.bipush 12, 2) := by decide +kernel
theorem c25_118 : mc_cd 25 118 = some (.invokevirtual 154, 3) := by decide +kernel
theorem c25_121 : mc_cd 25 121 = some (.ifCond .ne 5, 3) := by decide +kernel
theorem c25_124 : mc_cd 25 124 = some (.iconst 0, 1) := by decide +kernel
theorem c25_125 : mc_cd 25 125 = some (.ireturn, 1) := by decide +kernel
theorem c25_126 : mc_cd 25 126 = some (.aload_n 2, 1) := by decide +kernel
theorem c25_127 : mc_cd 25 127 = some (.aload_n 0, 1) := by decide +kernel
theorem c25_128 : mc_cd 25 128 = some (.getfield 158, 3) := by decide +kernel
theorem c25_131 : mc_cd 25 131 = some (.putfield 172, 3) := by decide +kernel
theorem c25_134 : mc_cd 25 134 = some (.aload_n 2, 1) := by decide +kernel
theorem c25_135 : mc_cd 25 135 = some (.aload_n 0, 1) := by decide +kernel
theorem c25_136 : mc_cd 25 136 = some (.getfield 164, 3) := by decide +kernel
theorem c25_139 : mc_cd 25 139 = some (.putfield 175, 3) := by decide +kernel
theorem c25_142 : mc_cd 25 142 = some (.iconst 1, 1) := by decide +kernel
theorem c25_143 : mc_cd 25 143 = some (.ireturn, 1) := by decide +kernel
abbrev q_25 (r0 : Nat) (r1 : Nat) (tk : Nat) (rb : Nat) (T : wq_T) (H : wq_H) : Option Value → wq_T → wq_H → Prop := fun r T' H' => T = T' ∧ WT T H' ∧ wfr [(35, 6), (35, 7), (35, 8), (35, 9), (35, 10), (35, 11), (35, 12), (35, 13), (35, 14), (35, 15), (35, 16), (35, 17), (3, 1), (3, 2), (3, 3), (3, 4), (4, 2), (4, 3), (4, 4), (4, 5), (4, 6)] T H H' ∧ ∃ z : Int, some (vI z) = r ∧ (0 ≤ z ∧ z ≤ 1)
set_option maxHeartbeats 4000000 in
theorem s_25 {kt : Nat → Option mc_E} {T : wq_T} {H : wq_H} {r0 : Nat} {r1 : Nat} {tk : Nat} {rb : Nat} (hW : WT T H) (g0 : T.2.2.2 r0 = some 3) (g1 : T.2.2.2 r1 = some 27) (qtk : H r0 0 = (tk : Int)) (gtk : T.2.2.2 tk = some 4) (qrb : H tk 0 = (rb : Int)) (grb : T.2.2.2 rb = some 2) (p0 : H r1 10 ≤ 5) : wpc kt 4 25 [.ref r0, .ref r1] T H (q_25 r0 r1 tk rb T H) := by
  refine wp_enter e25 (Nat.le_of_ble_eq_true rfl) rfl ?_
  have f0 : wfr [(35, 6), (35, 7), (35, 8), (35, 9), (35, 10), (35, 11), (35, 12), (35, 13), (35, 14), (35, 15), (35, 16), (35, 17), (3, 1), (3, 2), (3, 3), (3, 4), (4, 2), (4, 3), (4, 4), (4, 5), (4, 6)] T H H := wfr.rf
  show wp _ _ 25 0 [(0, .ref r0), (1, .ref r1)] [] _ H _
  refine wp_of e25 c25_0 (rw_aload_n (pc' := 1) (v := .ref r0) rfl rfl rfl ?_)
  refine wp_of e25 c25_1 (xc_V (pc' := 4) (r := r0) (as := []) (st := []) (lm_1_131) rfl rfl (Nat.le_of_ble_eq_true rfl) hW g0 sh_3 (by decide) rfl (by decide) (s_26 hW g0) (fun R9615 T9616 H9617 p9618 => ?_))
  obtain ⟨e9619, e9621, z9622, e9620, b9623⟩ := p9618
  subst e9619
  subst e9620
  subst e9621
  show wp _ _ 25 4 [(0, .ref r0), (1, .ref r1)] [vI z9622] _ H _
  refine wp_of e25 c25_4 (rw_if_ne (p1 := 13) (p2 := 7) (by decide) rfl ⟨by omega, by omega⟩ (fun c9624 => ?_) (fun c9624 => ?_))
  · refine wp_of e25 c25_13 (rw_aload_n (pc' := 14) (v := .ref r1) rfl rfl rfl ?_)
    refine wp_of e25 c25_14 (rw_aload_n (pc' := 15) (v := .ref r0) rfl rfl rfl ?_)
    refine wp_of e25 c25_15 (xg_K (pc' := 18) lf_1_12 hW g0 sh_3 (by decide) (by decide) rfl qtk rfl ?_)
    refine wp_of e25 c25_18 (xg_L (pc' := 21) lf_1_135 hW gtk sh_4 (by decide) (by decide) ty_4_6 rfl rfl (fun b9625 b9626 => ?_))
    refine wp_of e25 c25_21 (xc_V (pc' := 24) (r := r1) (as := [vL (H tk 6)]) (st := []) (lm_1_139) rfl rfl (Nat.le_of_ble_eq_true rfl) hW g1 sh_27 (by decide) rfl (by decide) (s_27 hW g1 ⟨by omega, by omega⟩) (fun R9627 T9628 H9629 p9630 => ?_))
    obtain ⟨e9631, e9633, z9634, e9632, b9635⟩ := p9630
    subst e9631
    subst e9632
    subst e9633
    show wp _ _ 25 24 [(0, .ref r0), (1, .ref r1)] [vI z9634] _ H _
    refine wp_of e25 c25_24 (rw_if_lt (p1 := 33) (p2 := 27) (by decide) rfl ⟨by omega, by omega⟩ (fun c9636 => ?_) (fun c9636 => ?_))
    · refine wp_of e25 c25_33 (rw_aload_n (pc' := 34) (v := .ref r1) rfl rfl rfl ?_)
      refine wp_of e25 c25_34 (xg_R (pc' := 37) lf_1_143 hW g1 sh_27 (by decide) (by decide) ty_27_0 rfl rfl (fun r9637 q9638 g9639 => ?_))
      refine wp_of e25 c25_37 (rw_aload_n (pc' := 38) (v := .ref r1) rfl rfl rfl ?_)
      refine wp_of e25 c25_38 (xg_I (pc' := 41) lf_1_44 hW g1 sh_27 (by decide) (by decide) ty_27_10 rfl rfl (fun b9640 b9641 => ?_))
      refine wp_of e25 c25_41 (xa_R (pc' := 42) (by decide) hW g9639 sh_28 (by decide) (ty_28 _) (by omega) (by omega) rfl (fun r9642 q9643 g9644 => ?_))
      refine wp_of e25 c25_42 (rw_astore_n (pc' := 43) (v := .ref r9642) (L' := [(2, .ref r9642), (0, .ref r0), (1, .ref r1)]) rfl rfl rfl rfl ?_)
      refine wp_of e25 c25_43 (rw_aload_n (pc' := 44) (v := .ref r9642) rfl rfl rfl ?_)
      refine wp_of e25 c25_44 (rw_aload_n (pc' := 45) (v := .ref r0) rfl rfl rfl ?_)
      refine wp_of e25 c25_45 (xg_K (pc' := 48) lf_1_12 hW g0 sh_3 (by decide) (by decide) rfl qtk rfl ?_)
      refine wp_of e25 c25_48 (xg_L (pc' := 51) lf_1_135 hW gtk sh_4 (by decide) (by decide) ty_4_6 rfl rfl (fun b9645 b9646 => ?_))
      refine wp_of e25 c25_51 (xc_V (pc' := 54) (r := r9642) (as := [vL (H tk 6)]) (st := []) (lm_1_147) rfl rfl (Nat.le_of_ble_eq_true rfl) hW g9644 sh_35 (by decide) rfl (by decide) (s_28 hW g9644 ⟨by omega, by omega⟩) (fun R9647 T9648 H9649 p9650 => ?_))
      obtain ⟨e9651, w9653, f9654, e9652⟩ := p9650
      subst e9651
      subst e9652
      have f9655 := f0.tr f9654 rfl
      show wp _ _ 25 54 [(2, .ref r9642), (0, .ref r0), (1, .ref r1)] [] _ H9649 _
      refine wp_of e25 c25_54 (rw_aload_n (pc' := 55) (v := .ref r0) rfl rfl rfl ?_)
      have k9656 : H9649 r0 0 = H r0 0 := (f9654 r0 0 _ g0 rfl)
      have q9657 : H9649 r0 0 = (tk : Int) := k9656.trans qtk
      refine wp_of e25 c25_55 (xg_K (pc' := 58) lf_1_12 w9653 g0 sh_3 (by decide) (by decide) rfl q9657 rfl ?_)
      have k9658 : H9649 tk 0 = H tk 0 := (f9654 tk 0 _ gtk rfl)
      have q9659 : H9649 tk 0 = (rb : Int) := k9658.trans qrb
      refine wp_of e25 c25_58 (xc_V (pc' := 61) (r := tk) (as := []) (st := []) (lm_1_74) rfl rfl (Nat.le_of_ble_eq_true rfl) w9653 gtk sh_4 (by decide) rfl (by decide) (s_16 w9653 gtk q9659 grb) (fun R9660 T9661 H9662 p9663 => ?_))
      obtain ⟨e9664, w9666, f9667, e9665⟩ := p9663
      subst e9664
      subst e9665
      have f9668 := f9655.tr f9667 rfl
      show wp _ _ 25 61 [(2, .ref r9642), (0, .ref r0), (1, .ref r1)] [] _ H9662 _
      refine wp_of e25 c25_61 (rw_aload_n (pc' := 62) (v := .ref r0) rfl rfl rfl ?_)
      refine wp_of e25 c25_62 (rw_ldcS (pc' := 64) (k := 67) rfl rfl rfl rfl ?_)
      have k9669 : H9662 r0 0 = H9649 r0 0 := (f9667 r0 0 _ g0 rfl)
      have q9670 : H9662 r0 0 = (tk : Int) := k9669.trans q9657
      have k9671 : H9662 tk 0 = H9649 tk 0 := (f9667 tk 0 _ gtk rfl)
      have q9672 : H9662 tk 0 = (rb : Int) := k9671.trans q9659
      refine wp_of e25 c25_64 (xc_V (pc' := 67) (r := r0) (as := [.ref 67]) (st := []) (lm_1_115) rfl rfl (Nat.le_of_ble_eq_true rfl) w9666 g0 sh_3 (by decide) rfl (by decide) (s_23 w9666 g0 rfl q9670 gtk q9672 grb) (fun R9673 T9674 H9675 p9676 => ?_))
      obtain ⟨e9677, w9679, f9680, z9681, e9678, b9682⟩ := p9676
      subst e9677
      subst e9678
      have f9683 := f9668.tr f9680 rfl
      show wp _ _ 25 67 [(2, .ref r9642), (0, .ref r0), (1, .ref r1)] [vI z9681] _ H9675 _
      refine wp_of e25 c25_67 (rw_if_eq (p1 := 84) (p2 := 70) (by decide) rfl ⟨by omega, by omega⟩ (fun c9684 => ?_) (fun c9684 => ?_))
      · refine wp_of e25 c25_84 (rw_iconst (pc' := 85) rfl ?_)
        exact wp_zreturn e25 c25_85 rfl (by omega) ⟨rfl, w9679, f9683, 0, rfl, ⟨by omega, by omega⟩⟩
      · refine wp_of e25 c25_70 (rw_aload_n (pc' := 71) (v := .ref r0) rfl rfl rfl ?_)
        refine wp_of e25 c25_71 (rw_bipush (pc' := 73) (z := 23) rfl (by decide) ?_)
        refine wp_of e25 c25_73 (rw_iconst (pc' := 74) rfl ?_)
        refine wp_of e25 c25_74 (rw_bipush (pc' := 76) (z := 7) rfl (by decide) ?_)
        refine wp_of e25 c25_76 (rw_bipush (pc' := 78) (z := 23) rfl (by decide) ?_)
        have k9685 : H9675 r0 0 = H9662 r0 0 := (f9680 r0 0 _ g0 rfl)
        have q9686 : H9675 r0 0 = (tk : Int) := k9685.trans q9670
        have k9687 : H9675 tk 0 = H9662 tk 0 := (f9680 tk 0 _ gtk rfl)
        have q9688 : H9675 tk 0 = (rb : Int) := k9687.trans q9672
        refine wp_of e25 c25_78 (xc_V (pc' := 81) (r := r0) (as := [vI 23, vI 0, vI 7, vI 23]) (st := []) (lm_1_154) rfl rfl (Nat.le_of_ble_eq_true rfl) w9679 g0 sh_3 (by decide) rfl (by decide) (s_29 w9679 g0 ⟨by omega, by omega⟩ ⟨by omega, by omega⟩ ⟨by omega, by omega⟩ ⟨by omega, by omega⟩ q9686 gtk q9688 grb) (fun R9689 T9690 H9691 p9692 => ?_))
        obtain ⟨e9693, w9695, f9696, z9697, e9694, b9698⟩ := p9692
        subst e9693
        subst e9694
        have f9699 := f9683.tr f9696 rfl
        show wp _ _ 25 81 [(2, .ref r9642), (0, .ref r0), (1, .ref r1)] [vI z9697] _ H9691 _
        refine wp_of e25 c25_81 (rw_if_ne (p1 := 86) (p2 := 84) (by decide) rfl ⟨by omega, by omega⟩ (fun c9700 => ?_) (fun c9700 => ?_))
        · refine wp_of e25 c25_86 (rw_aload_n (pc' := 87) (v := .ref r9642) rfl rfl rfl ?_)
          refine wp_of e25 c25_87 (rw_aload_n (pc' := 88) (v := .ref r0) rfl rfl rfl ?_)
          refine wp_of e25 c25_88 (xg_I (pc' := 91) lf_1_158 w9695 g0 sh_3 (by decide) (by decide) ty_3_1 rfl rfl (fun b9701 b9702 => ?_))
          refine wp_of e25 c25_91 (xp_I (pc' := 94) lf_1_161 w9695 g9644 sh_35 (by decide) (by decide) ty_35_7 rfl rfl (by omega) (by omega) ⟨by omega, by omega⟩ rfl (fun H9703 e9704 w9705 => ?_))
          have f9706 := f9699.put' e9704 g9644 rfl
          have k9707 : H9703 r9642 7 = H9691 r0 1 := wq_u_s e9704
          refine wp_of e25 c25_94 (rw_aload_n (pc' := 95) (v := .ref r9642) rfl rfl rfl ?_)
          refine wp_of e25 c25_95 (rw_aload_n (pc' := 96) (v := .ref r0) rfl rfl rfl ?_)
          refine wp_of e25 c25_96 (xg_I (pc' := 99) lf_1_164 w9705 g0 sh_3 (by decide) (by decide) ty_3_2 rfl rfl (fun b9708 b9709 => ?_))
          refine wp_of e25 c25_99 (xp_I (pc' := 102) lf_1_167 w9705 g9644 sh_35 (by decide) (by decide) ty_35_8 rfl rfl (by omega) (by omega) ⟨by omega, by omega⟩ rfl (fun H9710 e9711 w9712 => ?_))
          have f9713 := f9706.put' e9711 g9644 rfl
          have k9714 : H9710 r9642 8 = H9703 r0 2 := wq_u_s e9711
          refine wp_of e25 c25_102 (rw_aload_n (pc' := 103) (v := .ref r0) rfl rfl rfl ?_)
          refine wp_of e25 c25_103 (rw_ldcS (pc' := 105) (k := 69) rfl rfl rfl rfl ?_)
          have k9715 : H9710 r0 0 = H9675 r0 0 := ((wq_u_t e9711 g9644 g0 rfl 0).trans ((wq_u_t e9704 g9644 g0 rfl 0).trans (f9696 r0 0 _ g0 rfl)))
          have q9716 : H9710 r0 0 = (tk : Int) := k9715.trans q9686
          have k9717 : H9710 tk 0 = H9675 tk 0 := ((wq_u_t e9711 g9644 gtk rfl 0).trans ((wq_u_t e9704 g9644 gtk rfl 0).trans (f9696 tk 0 _ gtk rfl)))
          have q9718 : H9710 tk 0 = (rb : Int) := k9717.trans q9688
          refine wp_of e25 c25_105 (xc_V (pc' := 108) (r := r0) (as := [.ref 69]) (st := []) (lm_1_115) rfl rfl (Nat.le_of_ble_eq_true rfl) w9712 g0 sh_3 (by decide) rfl (by decide) (s_23 w9712 g0 rfl q9716 gtk q9718 grb) (fun R9719 T9720 H9721 p9722 => ?_))
          obtain ⟨e9723, w9725, f9726, z9727, e9724, b9728⟩ := p9722
          subst e9723
          subst e9724
          have f9729 := f9713.tr f9726 rfl
          show wp _ _ 25 108 [(2, .ref r9642), (0, .ref r0), (1, .ref r1)] [vI z9727] _ H9721 _
          refine wp_of e25 c25_108 (rw_if_eq (p1 := 124) (p2 := 111) (by decide) rfl ⟨by omega, by omega⟩ (fun c9730 => ?_) (fun c9730 => ?_))
          · refine wp_of e25 c25_124 (rw_iconst (pc' := 125) rfl ?_)
            exact wp_zreturn e25 c25_125 rfl (by omega) ⟨rfl, w9725, f9729, 0, rfl, ⟨by omega, by omega⟩⟩
          · refine wp_of e25 c25_111 (rw_aload_n (pc' := 112) (v := .ref r0) rfl rfl rfl ?_)
            refine wp_of e25 c25_112 (rw_bipush (pc' := 114) (z := 12) rfl (by decide) ?_)
            refine wp_of e25 c25_114 (rw_iconst (pc' := 115) rfl ?_)
            refine wp_of e25 c25_115 (rw_iconst (pc' := 116) rfl ?_)
            refine wp_of e25 c25_116 (rw_bipush (pc' := 118) (z := 12) rfl (by decide) ?_)
            have k9731 : H9721 r0 0 = H9710 r0 0 := (f9726 r0 0 _ g0 rfl)
            have q9732 : H9721 r0 0 = (tk : Int) := k9731.trans q9716
            have k9733 : H9721 tk 0 = H9710 tk 0 := (f9726 tk 0 _ gtk rfl)
            have q9734 : H9721 tk 0 = (rb : Int) := k9733.trans q9718
            refine wp_of e25 c25_118 (xc_V (pc' := 121) (r := r0) (as := [vI 12, vI 0, vI 4, vI 12]) (st := []) (lm_1_154) rfl rfl (Nat.le_of_ble_eq_true rfl) w9725 g0 sh_3 (by decide) rfl (by decide) (s_29 w9725 g0 ⟨by omega, by omega⟩ ⟨by omega, by omega⟩ ⟨by omega, by omega⟩ ⟨by omega, by omega⟩ q9732 gtk q9734 grb) (fun R9735 T9736 H9737 p9738 => ?_))
            obtain ⟨e9739, w9741, f9742, z9743, e9740, b9744⟩ := p9738
            subst e9739
            subst e9740
            have f9745 := f9729.tr f9742 rfl
            show wp _ _ 25 121 [(2, .ref r9642), (0, .ref r0), (1, .ref r1)] [vI z9743] _ H9737 _
            refine wp_of e25 c25_121 (rw_if_ne (p1 := 126) (p2 := 124) (by decide) rfl ⟨by omega, by omega⟩ (fun c9746 => ?_) (fun c9746 => ?_))
            · refine wp_of e25 c25_126 (rw_aload_n (pc' := 127) (v := .ref r9642) rfl rfl rfl ?_)
              refine wp_of e25 c25_127 (rw_aload_n (pc' := 128) (v := .ref r0) rfl rfl rfl ?_)
              refine wp_of e25 c25_128 (xg_I (pc' := 131) lf_1_158 w9741 g0 sh_3 (by decide) (by decide) ty_3_1 rfl rfl (fun b9747 b9748 => ?_))
              refine wp_of e25 c25_131 (xp_I (pc' := 134) lf_1_172 w9741 g9644 sh_35 (by decide) (by decide) ty_35_9 rfl rfl (by omega) (by omega) ⟨by omega, by omega⟩ rfl (fun H9749 e9750 w9751 => ?_))
              have f9752 := f9745.put' e9750 g9644 rfl
              have k9753 : H9749 r9642 9 = H9737 r0 1 := wq_u_s e9750
              refine wp_of e25 c25_134 (rw_aload_n (pc' := 135) (v := .ref r9642) rfl rfl rfl ?_)
              refine wp_of e25 c25_135 (rw_aload_n (pc' := 136) (v := .ref r0) rfl rfl rfl ?_)
              refine wp_of e25 c25_136 (xg_I (pc' := 139) lf_1_164 w9751 g0 sh_3 (by decide) (by decide) ty_3_2 rfl rfl (fun b9754 b9755 => ?_))
              refine wp_of e25 c25_139 (xp_I (pc' := 142) lf_1_175 w9751 g9644 sh_35 (by decide) (by decide) ty_35_10 rfl rfl (by omega) (by omega) ⟨by omega, by omega⟩ rfl (fun H9756 e9757 w9758 => ?_))
              have f9759 := f9752.put' e9757 g9644 rfl
              have k9760 : H9756 r9642 10 = H9749 r0 2 := wq_u_s e9757
              refine wp_of e25 c25_142 (rw_iconst (pc' := 143) rfl ?_)
              exact wp_zreturn e25 c25_143 rfl (by omega) ⟨rfl, w9758, f9759, 1, rfl, ⟨by omega, by omega⟩⟩
            · refine wp_of e25 c25_124 (rw_iconst (pc' := 125) rfl ?_)
              exact wp_zreturn e25 c25_125 rfl (by omega) ⟨rfl, w9741, f9745, 0, rfl, ⟨by omega, by omega⟩⟩
        · refine wp_of e25 c25_84 (rw_iconst (pc' := 85) rfl ?_)
          exact wp_zreturn e25 c25_85 rfl (by omega) ⟨rfl, w9695, f9699, 0, rfl, ⟨by omega, by omega⟩⟩
    · refine wp_of e25 c25_27 (rw_aload_n (pc' := 28) (v := .ref r0) rfl rfl rfl ?_)
      refine wp_of e25 c25_28 (rw_iconst (pc' := 29) rfl ?_)
      refine wp_of e25 c25_29 (xc_V (pc' := 32) (r := r0) (as := [vI 3]) (st := []) (lm_1_47) rfl rfl (Nat.le_of_ble_eq_true rfl) hW g0 sh_3 (by decide) rfl (by decide) (s_20 hW g0 ⟨by omega, by omega⟩) (fun R9761 T9762 H9763 p9764 => ?_))
      obtain ⟨e9765, w9767, f9768, z9769, e9766, b9770⟩ := p9764
      subst e9765
      subst e9766
      have f9771 := f0.tr f9768 rfl
      show wp _ _ 25 32 [(0, .ref r0), (1, .ref r1)] [vI z9769] _ H9763 _
      exact wp_zreturn e25 c25_32 rfl (by omega) ⟨rfl, w9767, f9771, z9769, rfl, ⟨by omega, by omega⟩⟩
  · refine wp_of e25 c25_7 (rw_aload_n (pc' := 8) (v := .ref r0) rfl rfl rfl ?_)
    refine wp_of e25 c25_8 (rw_iconst (pc' := 9) rfl ?_)
    refine wp_of e25 c25_9 (xc_V (pc' := 12) (r := r0) (as := [vI 1]) (st := []) (lm_1_47) rfl rfl (Nat.le_of_ble_eq_true rfl) hW g0 sh_3 (by decide) rfl (by decide) (s_20 hW g0 ⟨by omega, by omega⟩) (fun R9772 T9773 H9774 p9775 => ?_))
    obtain ⟨e9776, w9778, f9779, z9780, e9777, b9781⟩ := p9775
    subst e9776
    subst e9777
    have f9782 := f0.tr f9779 rfl
    show wp _ _ 25 12 [(0, .ref r0), (1, .ref r1)] [vI z9780] _ H9774 _
    exact wp_zreturn e25 c25_12 rfl (by omega) ⟨rfl, w9778, f9782, z9780, rfl, ⟨by omega, by omega⟩⟩
/-! StrikeAwake.hourBits(II)I -/
theorem e31 : wq_en 31 = some (0, 2, false, some FieldType.int) := rfl
theorem c31_0 : mc_cd 31 0 = some (.lconst 1, 1) := by decide +kernel
theorem c31_1 : mc_cd 31 1 = some (.iload_n 1, 1) := by decide +kernel
theorem c31_2 : mc_cd 31 2 = some (.lshl, 1) := by decide +kernel
theorem c31_3 : mc_cd 31 3 = some (.lconst 1, 1) := by decide +kernel
theorem c31_4 : mc_cd 31 4 = some (.iload_n 0, 1) := by decide +kernel
theorem c31_5 : mc_cd 31 5 = some (.lshl, 1) := by decide +kernel
theorem c31_6 : mc_cd 31 6 = some (.lsub, 1) := by decide +kernel
theorem c31_7 : mc_cd 31 7 = some (.l2i, 1) := by decide +kernel
theorem c31_8 : mc_cd 31 8 = some (.ldc_w 350, 3) := by decide +kernel
theorem c31_11 : mc_cd 31 11 = some (.iand, 1) := by decide +kernel
theorem c31_12 : mc_cd 31 12 = some (.ireturn, 1) := by decide +kernel
abbrev q_31 (a0 : Int) (a1 : Int) (T : wq_T) (H : wq_H) : Option Value → wq_T → wq_H → Prop := fun r T' H' => T = T' ∧ H = H' ∧ ∃ z : Int, some (vI z) = r ∧ ((-2147483648) ≤ z ∧ z ≤ 2147483647)
set_option maxHeartbeats 4000000 in
theorem s_31 {kt : Nat → Option mc_E} {T : wq_T} {H : wq_H} {a0 : Int} {a1 : Int} (hW : WT T H) (i0 : (-2147483648) ≤ a0 ∧ a0 ≤ 2147483647) (i1 : (-2147483648) ≤ a1 ∧ a1 ≤ 2147483647) : wpc kt 1 31 [vI a0, vI a1] T H (q_31 a0 a1 T H) := by
  refine wp_enter e31 (Nat.le_of_ble_eq_true rfl) rfl ?_
  show wp _ _ 31 0 [(0, vI a0), (1, vI a1)] [] _ H _
  refine wp_of e31 c31_0 (rw_lconst (pc' := 1) (z := 1) rfl rfl ?_)
  refine wp_of e31 c31_1 (rw_iload_n (pc' := 2) (z := a1) rfl rfl ?_)
  refine wp_of e31 c31_2 (rw_lshl (pc' := 3) rfl ?_)
  obtain ⟨v9793, e9794⟩ : ∃ x : Int, x = wl_shl 1 a1 := ⟨_, rfl⟩
  rw [← e9794]
  have b9795 : -9223372036854775808 ≤ v9793 ∧ v9793 ≤ 9223372036854775807 := by
    rw [e9794]
    exact wL_shl _ _
  refine wp_of e31 c31_3 (rw_lconst (pc' := 4) (z := 1) rfl rfl ?_)
  refine wp_of e31 c31_4 (rw_iload_n (pc' := 5) (z := a0) rfl rfl ?_)
  refine wp_of e31 c31_5 (rw_lshl (pc' := 6) rfl ?_)
  obtain ⟨v9796, e9797⟩ : ∃ x : Int, x = wl_shl 1 a0 := ⟨_, rfl⟩
  rw [← e9797]
  have b9798 : -9223372036854775808 ≤ v9796 ∧ v9796 ≤ 9223372036854775807 := by
    rw [e9797]
    exact wL_shl _ _
  refine wp_of e31 c31_6 (rw_lsubw (pc' := 7) rfl ?_)
  obtain ⟨v9799, e9800⟩ : ∃ x : Int, x = wl_w (v9793 - v9796) := ⟨_, rfl⟩
  rw [← e9800]
  have b9801 : -9223372036854775808 ≤ v9799 ∧ v9799 ≤ 9223372036854775807 := by
    rw [e9800]
    exact wL_w _
  refine wp_of e31 c31_7 (rw_l2i (pc' := 8) rfl ?_)
  obtain ⟨v9802, e9803⟩ : ∃ x : Int, x = wq_w v9799 := ⟨_, rfl⟩
  rw [← e9803]
  have b9804 : -2147483648 ≤ v9802 ∧ v9802 ≤ 2147483647 := by
    rw [e9803]
    exact wI_w _
  refine wp_of e31 c31_8 (rw_ldc_wI (pc' := 11) (z := 16777215) rfl rfl rfl ?_)
  refine wp_of e31 c31_11 (rw_iand (pc' := 12) rfl ?_)
  obtain ⟨v9805, e9806⟩ : ∃ x : Int, x = wq_and v9802 16777215 := ⟨_, rfl⟩
  rw [← e9806]
  have b9807 : 0 ≤ v9805 ∧ v9805 ≤ 16777215 := by
    rw [e9806]
    exact wq_and_b _ (by omega) (by omega)
  exact wp_ireturn e31 c31_12 rfl ⟨rfl, rfl, v9805, rfl, ⟨by omega, by omega⟩⟩
/-! StrikeAwake$Reader.readsCustoms(LStrikeAwake$Parish;)Z -/
theorem e30 : wq_en 30 = some (1, 3, false, some FieldType.boolean) := rfl
theorem c30_0 : mc_cd 30 0 = some (.aload_n 1, 1) := by decide +kernel
theorem c30_1 : mc_cd 30 1 = some (.getfield 143, 3) := by decide +kernel
theorem c30_4 : mc_cd 30 4 = some (.aload_n 1, 1) := by decide +kernel
theorem c30_5 : mc_cd 30 5 = some (.getfield 44, 3) := by decide +kernel
theorem c30_8 : mc_cd 30 8 = some (.aaload, 1) := by decide +kernel
theorem c30_9 : mc_cd 30 9 = some (.astore_n 2, 1) := by decide +kernel
theorem c30_10 : mc_cd 30 10 = some (.aload_n 0, 1) := by decide +kernel
theorem c30_11 : mc_cd 30 11 = some (.getfield 12, 3) := by decide +kernel
theorem c30_14 : mc_cd 30 14 = some (.getstatic 178, 3) := by decide +kernel
theorem c30_17 : mc_cd 30 17 = some (.getfield 181, 3) := by decide +kernel
theorem c30_20 : mc_cd 30 20 = some (.invokevirtual 185, 3) := by decide +kernel
theorem c30_23 : mc_cd 30 23 = some (.ifCond .eq 30, 3) := by decide +kernel
theorem c30_26 : mc_cd 30 26 = some (.aload_n 0, 1) := by decide +kernel
theorem c30_27 : mc_cd 30 27 = some (.getfield 12, 3) := by decide +kernel
theorem c30_30 : mc_cd 30 30 = some (.invokevirtual 74, 3) := by decide +kernel
theorem c30_33 : mc_cd 30 33 = some (.aload_n 2, 1) := by decide +kernel
theorem c30_34 : mc_cd 30 34 = some (.aload_n 0, 1) := by decide +kernel
theorem c30_35 : mc_cd 30 35 = some (.iconst 0, 1) := by decide +kernel
theorem c30_36 : mc_cd 30 36 = some (.bipush 23, 2) := by decide +kernel
theorem c30_38 : mc_cd 30 38 = some (.invokevirtual 119, 3) := by decide +kernel
theorem c30_41 : mc_cd 30 41 = some (.putfield 188, 3) := by decide +kernel
theorem c30_44 : mc_cd 30 44 = some (.aload_n 2, 1) := by decide +kernel
theorem c30_45 : mc_cd 30 45 = some (.getfield 188, 3) := by decide +kernel
theorem c30_48 : mc_cd 30 48 = some (.ifCond .ge 5, 3) := by decide +kernel
theorem c30_51 : mc_cd 30 51 = some (.iconst 0, 1) := by decide +kernel
theorem c30_52 : mc_cd 30 52 = some (.ireturn, 1) := by decide +kernel
theorem c30_53 : mc_cd 30 53 = some (.aload_n 0, 1) := by decide +kernel
theorem c30_54 : mc_cd 30 54 = some (.getfield 12, 3) := by decide +kernel
theorem c30_57 : mc_cd 30 57 = some (.getstatic 191, 3) := by decide +kernel
theorem c30_60 : mc_cd 30 60 = some (.getfield 181, 3) := by decide +kernel
theorem c30_63 : mc_cd 30 63 = some (.invokevirtual 185, 3) := by decide +kernel
theorem c30_66 : mc_cd 30 66 = some (.ifCond .eq 41, 3) := by decide +kernel
theorem c30_69 : mc_cd 30 69 = some (.aload_n 0, 1) := by decide +kernel
theorem c30_70 : mc_cd 30 70 = some (.getfield 12, 3) := by decide +kernel
theorem c30_73 : mc_cd 30 73 = some (.invokevirtual 74, 3) := by decide +kernel
theorem c30_76 : mc_cd 30 76 = some (.aload_n 0, 1) := by decide +kernel
theorem c30_77 : mc_cd 30 77 = some (.bipush 23, 2) := by decide +kernel
theorem c30_79 : mc_cd 30 79 = some (.iconst 1, 1) := by decide +kernel
theorem c30_80 : mc_cd 30 80 = some (.bipush 24, 2) := by decide +kernel
theorem c30_82 : mc_cd 30 82 = some (.bipush 24, 2) := by decide +kernel
theorem c30_84 : mc_cd 30 84 = some (.invokevirtual 154, 3) := by decide +kernel
theorem c30_87 : mc_cd 30 87 = some (.ifCond .ne 5, 3) := by decide +kernel
theorem c30_90 : mc_cd 30 90 = some (.iconst 0, 1) := by decide +kernel
theorem c30_91 : mc_cd 30 91 = some (.ireturn, 1) := by decide +kernel
theorem c30_92 : mc_cd 30 92 = some (.aload_n 2, 1) := by decide +kernel
theorem c30_93 : mc_cd 30 93 = some (.aload_n 0, 1) := by decide +kernel
theorem c30_94 : mc_cd 30 94 = some (.getfield 158, 3) := by decide +kernel
theorem c30_97 : mc_cd 30 97 = some (.aload_n 0, 1) := by decide +kernel
theorem c30_98 : mc_cd 30 98 = some (.getfield 164, 3) := by decide +kernel
theorem c30_101 : mc_cd 30 101 = some (.invokestatic 194, 3) := by decide +kernel
theorem c30_104 : mc_cd 30 104 = some (.putfield 197, 3) := by decide +kernel
theorem c30_107 : mc_cd 30 107 = some (.aload_n 0, 1) := by decide +kernel
theorem c30_108 : mc_cd 30 108 = some (.getfield 12, 3) := by decide +kernel
theorem c30_111 : mc_cd 30 111 = some (.getstatic 200, 3) := by decide +kernel
theorem c30_114 : mc_cd 30 114 = some (.getfield 181, 3) := by decide +kernel
theorem c30_117 : mc_cd 30 117 = some (.invokevirtual 185, 3) := by decide +kernel
theorem c30_120 : mc_cd 30 120 = some (.ifCond .eq 15, 3) := by decide +kernel
theorem c30_123 : mc_cd 30 123 = some (.aload_n 0, 1) := by decide +kernel
theorem c30_124 : mc_cd 30 124 = some (.getfield 12, 3) := by decide +kernel
theorem c30_127 : mc_cd 30 127 = some (.invokevirtual 74, 3) := by decide +kernel
theorem c30_130 : mc_cd 30 130 = some (.aload_n 2, 1) := by decide +kernel
theorem c30_131 : mc_cd 30 131 = some (.iconst 1, 1) := by decide +kernel
theorem c30_132 : mc_cd 30 132 = some (.putfield 203, 3) := by decide +kernel
theorem c30_135 : mc_cd 30 135 = some (.aload_n 1, 1) := by decide +kernel
theorem c30_136 : mc_cd 30 136 = some (.dup, 1) := by decide +kernel
theorem c30_137 : mc_cd 30 137 = some (.getfield 44, 3) := by decide +kernel
theorem c30_140 : mc_cd 30 140 = some (.iconst 1, 1) := by decide +kernel
theorem c30_141 : mc_cd 30 141 = some (.iadd, 1) := by decide +kernel
theorem c30_142 : mc_cd 30 142 = some (.putfield 44, 3) := by decide +kernel
theorem c30_145 : mc_cd 30 145 = some (.iconst 1, 1) := by decide +kernel
theorem c30_146 : mc_cd 30 146 = some (.ireturn, 1) := by decide +kernel
abbrev q_30 (r0 : Nat) (r1 : Nat) (tk : Nat) (rb : Nat) (T : wq_T) (H : wq_H) : Option Value → wq_T → wq_H → Prop := fun r T' H' => T = T' ∧ WT T H' ∧ wfr [(27, 10), (35, 11), (35, 12), (35, 13), (3, 1), (3, 2), (3, 3), (3, 4), (4, 2), (4, 3), (4, 4), (4, 5), (4, 6)] T H H' ∧ ∃ z : Int, some (vI z) = r ∧ (0 ≤ z ∧ z ≤ 1)
set_option maxHeartbeats 4000000 in
theorem s_30 {kt : Nat → Option mc_E} {T : wq_T} {H : wq_H} {r0 : Nat} {r1 : Nat} {tk : Nat} {rb : Nat} (hW : WT T H) (g0 : T.2.2.2 r0 = some 3) (g1 : T.2.2.2 r1 = some 27) (qtk : H r0 0 = (tk : Int)) (gtk : T.2.2.2 tk = some 4) (qrb : H tk 0 = (rb : Int)) (grb : T.2.2.2 rb = some 2) (p0 : H r1 10 ≤ 5) : wpc kt 4 30 [.ref r0, .ref r1] T H (q_30 r0 r1 tk rb T H) := by
  refine wp_enter e30 (Nat.le_of_ble_eq_true rfl) rfl ?_
  have f0 : wfr [(27, 10), (35, 11), (35, 12), (35, 13), (3, 1), (3, 2), (3, 3), (3, 4), (4, 2), (4, 3), (4, 4), (4, 5), (4, 6)] T H H := wfr.rf
  show wp _ _ 30 0 [(0, .ref r0), (1, .ref r1)] [] _ H _
  refine wp_of e30 c30_0 (rw_aload_n (pc' := 1) (v := .ref r1) rfl rfl rfl ?_)
  refine wp_of e30 c30_1 (xg_R (pc' := 4) lf_1_143 hW g1 sh_27 (by decide) (by decide) ty_27_0 rfl rfl (fun r10145 q10146 g10147 => ?_))
  refine wp_of e30 c30_4 (rw_aload_n (pc' := 5) (v := .ref r1) rfl rfl rfl ?_)
  refine wp_of e30 c30_5 (xg_I (pc' := 8) lf_1_44 hW g1 sh_27 (by decide) (by decide) ty_27_10 rfl rfl (fun b10148 b10149 => ?_))
  refine wp_of e30 c30_8 (xa_R (pc' := 9) (by decide) hW g10147 sh_28 (by decide) (ty_28 _) (by omega) (by omega) rfl (fun r10150 q10151 g10152 => ?_))
  refine wp_of e30 c30_9 (rw_astore_n (pc' := 10) (v := .ref r10150) (L' := [(2, .ref r10150), (0, .ref r0), (1, .ref r1)]) rfl rfl rfl rfl ?_)
  refine wp_of e30 c30_10 (rw_aload_n (pc' := 11) (v := .ref r0) rfl rfl rfl ?_)
  refine wp_of e30 c30_11 (xg_K (pc' := 14) lf_1_12 hW g0 sh_3 (by decide) (by decide) rfl qtk rfl ?_)
  refine wp_of e30 c30_14 (rw_gs (pc' := 17) (k := 24) rfl rfl rfl rfl ?_)
  have k10153 : H 24 0 = ((40 : Nat) : Int) := (hW.2 24 _ (hW.1.2.2 8 (by decide))).2.2 0 (by decide) |> fun z => by have z1 : (40 : Int) ≤ H 24 0 ∧ H 24 0 ≤ 40 := z; omega
  refine wp_of e30 c30_17 (rw_getR (pc' := 20) (n := 2) (b := 40) (e := _) (lf_1_181).choose_spec.1 (lf_1_181).choose_spec.2.1 (hW.sh (hW.1.2.2 8 (by decide)) rfl) (by decide) rfl k10153 rfl ?_)
  refine wp_of e30 c30_20 (xc_V (pc' := 23) (r := tk) (as := [.ref 40]) (st := []) (lm_1_185) rfl rfl (Nat.le_of_ble_eq_true rfl) hW gtk sh_4 (by decide) rfl (by decide) (s_19 hW gtk rfl) (fun R10154 T10155 H10156 p10157 => ?_))
  obtain ⟨e10158, e10160, z10161, e10159, b10162⟩ := p10157
  subst e10158
  subst e10159
  subst e10160
  show wp _ _ 30 23 [(2, .ref r10150), (0, .ref r0), (1, .ref r1)] [vI z10161] _ H _
  refine wp_of e30 c30_23 (rw_if_eq (p1 := 53) (p2 := 26) (by decide) rfl ⟨by omega, by omega⟩ (fun c10163 => ?_) (fun c10163 => ?_))
  · refine wp_of e30 c30_53 (rw_aload_n (pc' := 54) (v := .ref r0) rfl rfl rfl ?_)
    refine wp_of e30 c30_54 (xg_K (pc' := 57) lf_1_12 hW g0 sh_3 (by decide) (by decide) rfl qtk rfl ?_)
    refine wp_of e30 c30_57 (rw_gs (pc' := 60) (k := 25) rfl rfl rfl rfl ?_)
    have k10164 : H 25 0 = ((41 : Nat) : Int) := (hW.2 25 _ (hW.1.2.2 9 (by decide))).2.2 0 (by decide) |> fun z => by have z1 : (41 : Int) ≤ H 25 0 ∧ H 25 0 ≤ 41 := z; omega
    refine wp_of e30 c30_60 (rw_getR (pc' := 63) (n := 2) (b := 41) (e := _) (lf_1_181).choose_spec.1 (lf_1_181).choose_spec.2.1 (hW.sh (hW.1.2.2 9 (by decide)) rfl) (by decide) rfl k10164 rfl ?_)
    refine wp_of e30 c30_63 (xc_V (pc' := 66) (r := tk) (as := [.ref 41]) (st := []) (lm_1_185) rfl rfl (Nat.le_of_ble_eq_true rfl) hW gtk sh_4 (by decide) rfl (by decide) (s_19 hW gtk rfl) (fun R10165 T10166 H10167 p10168 => ?_))
    obtain ⟨e10169, e10171, z10172, e10170, b10173⟩ := p10168
    subst e10169
    subst e10170
    subst e10171
    show wp _ _ 30 66 [(2, .ref r10150), (0, .ref r0), (1, .ref r1)] [vI z10172] _ H _
    refine wp_of e30 c30_66 (rw_if_eq (p1 := 107) (p2 := 69) (by decide) rfl ⟨by omega, by omega⟩ (fun c10174 => ?_) (fun c10174 => ?_))
    · refine wp_of e30 c30_107 (rw_aload_n (pc' := 108) (v := .ref r0) rfl rfl rfl ?_)
      refine wp_of e30 c30_108 (xg_K (pc' := 111) lf_1_12 hW g0 sh_3 (by decide) (by decide) rfl qtk rfl ?_)
      refine wp_of e30 c30_111 (rw_gs (pc' := 114) (k := 26) rfl rfl rfl rfl ?_)
      have k10175 : H 26 0 = ((42 : Nat) : Int) := (hW.2 26 _ (hW.1.2.2 10 (by decide))).2.2 0 (by decide) |> fun z => by have z1 : (42 : Int) ≤ H 26 0 ∧ H 26 0 ≤ 42 := z; omega
      refine wp_of e30 c30_114 (rw_getR (pc' := 117) (n := 2) (b := 42) (e := _) (lf_1_181).choose_spec.1 (lf_1_181).choose_spec.2.1 (hW.sh (hW.1.2.2 10 (by decide)) rfl) (by decide) rfl k10175 rfl ?_)
      refine wp_of e30 c30_117 (xc_V (pc' := 120) (r := tk) (as := [.ref 42]) (st := []) (lm_1_185) rfl rfl (Nat.le_of_ble_eq_true rfl) hW gtk sh_4 (by decide) rfl (by decide) (s_19 hW gtk rfl) (fun R10176 T10177 H10178 p10179 => ?_))
      obtain ⟨e10180, e10182, z10183, e10181, b10184⟩ := p10179
      subst e10180
      subst e10181
      subst e10182
      show wp _ _ 30 120 [(2, .ref r10150), (0, .ref r0), (1, .ref r1)] [vI z10183] _ H _
      refine wp_of e30 c30_120 (rw_if_eq (p1 := 135) (p2 := 123) (by decide) rfl ⟨by omega, by omega⟩ (fun c10185 => ?_) (fun c10185 => ?_))
      · refine wp_of e30 c30_135 (rw_aload_n (pc' := 136) (v := .ref r1) rfl rfl rfl ?_)
        refine wp_of e30 c30_136 (rw_dup (pc' := 137) rfl rfl ?_)
        refine wp_of e30 c30_137 (xg_I (pc' := 140) lf_1_44 hW g1 sh_27 (by decide) (by decide) ty_27_10 rfl rfl (fun b10186 b10187 => ?_))
        refine wp_of e30 c30_140 (rw_iconst (pc' := 141) rfl ?_)
        refine wp_of e30 c30_141 (rw_iadd (pc' := 142) rfl ?_)
        refine wp_of e30 c30_142 (xp_I (pc' := 145) lf_1_44 hW g1 sh_27 (by decide) (by decide) ty_27_10 rfl rfl (by omega) (by omega) ⟨by omega, by omega⟩ rfl (fun H10188 e10189 w10190 => ?_))
        have f10191 := f0.put' e10189 g1 rfl
        have k10192 : H10188 r1 10 = (H r1 10) + 1 := wq_u_s e10189
        refine wp_of e30 c30_145 (rw_iconst (pc' := 146) rfl ?_)
        exact wp_zreturn e30 c30_146 rfl (by omega) ⟨rfl, w10190, f10191, 1, rfl, ⟨by omega, by omega⟩⟩
      · refine wp_of e30 c30_123 (rw_aload_n (pc' := 124) (v := .ref r0) rfl rfl rfl ?_)
        refine wp_of e30 c30_124 (xg_K (pc' := 127) lf_1_12 hW g0 sh_3 (by decide) (by decide) rfl qtk rfl ?_)
        refine wp_of e30 c30_127 (xc_V (pc' := 130) (r := tk) (as := []) (st := []) (lm_1_74) rfl rfl (Nat.le_of_ble_eq_true rfl) hW gtk sh_4 (by decide) rfl (by decide) (s_16 hW gtk qrb grb) (fun R10193 T10194 H10195 p10196 => ?_))
        obtain ⟨e10197, w10199, f10200, e10198⟩ := p10196
        subst e10197
        subst e10198
        have f10201 := f0.tr f10200 rfl
        show wp _ _ 30 130 [(2, .ref r10150), (0, .ref r0), (1, .ref r1)] [] _ H10195 _
        refine wp_of e30 c30_130 (rw_aload_n (pc' := 131) (v := .ref r10150) rfl rfl rfl ?_)
        refine wp_of e30 c30_131 (rw_iconst (pc' := 132) rfl ?_)
        refine wp_of e30 c30_132 (xp_Z (pc' := 135) lf_1_203 w10199 g10152 sh_35 (by decide) (by decide) ty_35_13 rfl rfl (by omega) (by omega) rfl (fun H10202 e10203 w10204 => ?_))
        have f10205 := f10201.put' e10203 g10152 rfl
        have k10206 : H10202 r10150 13 = 1 := wq_u_s e10203
        refine wp_of e30 c30_135 (rw_aload_n (pc' := 136) (v := .ref r1) rfl rfl rfl ?_)
        refine wp_of e30 c30_136 (rw_dup (pc' := 137) rfl rfl ?_)
        have k10207 : H10202 r1 10 = H r1 10 := ((wq_u_t e10203 g10152 g1 rfl 10).trans (f10200 r1 10 _ g1 rfl))
        refine wp_of e30 c30_137 (xg_I (pc' := 140) lf_1_44 w10204 g1 sh_27 (by decide) (by decide) ty_27_10 rfl rfl (fun b10208 b10209 => ?_))
        refine wp_of e30 c30_140 (rw_iconst (pc' := 141) rfl ?_)
        refine wp_of e30 c30_141 (rw_iadd (pc' := 142) rfl ?_)
        refine wp_of e30 c30_142 (xp_I (pc' := 145) lf_1_44 w10204 g1 sh_27 (by decide) (by decide) ty_27_10 rfl rfl (by omega) (by omega) ⟨by omega, by omega⟩ rfl (fun H10210 e10211 w10212 => ?_))
        have f10213 := f10205.put' e10211 g1 rfl
        have k10214 : H10210 r1 10 = (H10202 r1 10) + 1 := wq_u_s e10211
        refine wp_of e30 c30_145 (rw_iconst (pc' := 146) rfl ?_)
        exact wp_zreturn e30 c30_146 rfl (by omega) ⟨rfl, w10212, f10213, 1, rfl, ⟨by omega, by omega⟩⟩
    · refine wp_of e30 c30_69 (rw_aload_n (pc' := 70) (v := .ref r0) rfl rfl rfl ?_)
      refine wp_of e30 c30_70 (xg_K (pc' := 73) lf_1_12 hW g0 sh_3 (by decide) (by decide) rfl qtk rfl ?_)
      refine wp_of e30 c30_73 (xc_V (pc' := 76) (r := tk) (as := []) (st := []) (lm_1_74) rfl rfl (Nat.le_of_ble_eq_true rfl) hW gtk sh_4 (by decide) rfl (by decide) (s_16 hW gtk qrb grb) (fun R10215 T10216 H10217 p10218 => ?_))
      obtain ⟨e10219, w10221, f10222, e10220⟩ := p10218
      subst e10219
      subst e10220
      have f10223 := f0.tr f10222 rfl
      show wp _ _ 30 76 [(2, .ref r10150), (0, .ref r0), (1, .ref r1)] [] _ H10217 _
      refine wp_of e30 c30_76 (rw_aload_n (pc' := 77) (v := .ref r0) rfl rfl rfl ?_)
      refine wp_of e30 c30_77 (rw_bipush (pc' := 79) (z := 23) rfl (by decide) ?_)
      refine wp_of e30 c30_79 (rw_iconst (pc' := 80) rfl ?_)
      refine wp_of e30 c30_80 (rw_bipush (pc' := 82) (z := 24) rfl (by decide) ?_)
      refine wp_of e30 c30_82 (rw_bipush (pc' := 84) (z := 24) rfl (by decide) ?_)
      have k10224 : H10217 r0 0 = H r0 0 := (f10222 r0 0 _ g0 rfl)
      have q10225 : H10217 r0 0 = (tk : Int) := k10224.trans qtk
      have k10226 : H10217 tk 0 = H tk 0 := (f10222 tk 0 _ gtk rfl)
      have q10227 : H10217 tk 0 = (rb : Int) := k10226.trans qrb
      refine wp_of e30 c30_84 (xc_V (pc' := 87) (r := r0) (as := [vI 23, vI 1, vI 24, vI 24]) (st := []) (lm_1_154) rfl rfl (Nat.le_of_ble_eq_true rfl) w10221 g0 sh_3 (by decide) rfl (by decide) (s_29 w10221 g0 ⟨by omega, by omega⟩ ⟨by omega, by omega⟩ ⟨by omega, by omega⟩ ⟨by omega, by omega⟩ q10225 gtk q10227 grb) (fun R10228 T10229 H10230 p10231 => ?_))
      obtain ⟨e10232, w10234, f10235, z10236, e10233, b10237⟩ := p10231
      subst e10232
      subst e10233
      have f10238 := f10223.tr f10235 rfl
      show wp _ _ 30 87 [(2, .ref r10150), (0, .ref r0), (1, .ref r1)] [vI z10236] _ H10230 _
      refine wp_of e30 c30_87 (rw_if_ne (p1 := 92) (p2 := 90) (by decide) rfl ⟨by omega, by omega⟩ (fun c10239 => ?_) (fun c10239 => ?_))
      · refine wp_of e30 c30_92 (rw_aload_n (pc' := 93) (v := .ref r10150) rfl rfl rfl ?_)
        refine wp_of e30 c30_93 (rw_aload_n (pc' := 94) (v := .ref r0) rfl rfl rfl ?_)
        refine wp_of e30 c30_94 (xg_I (pc' := 97) lf_1_158 w10234 g0 sh_3 (by decide) (by decide) ty_3_1 rfl rfl (fun b10240 b10241 => ?_))
        refine wp_of e30 c30_97 (rw_aload_n (pc' := 98) (v := .ref r0) rfl rfl rfl ?_)
        refine wp_of e30 c30_98 (xg_I (pc' := 101) lf_1_164 w10234 g0 sh_3 (by decide) (by decide) ty_3_2 rfl rfl (fun b10242 b10243 => ?_))
        refine wp_of e30 c30_101 (xc_S (pc' := 104) (as := [vI (H10230 r0 1), vI (H10230 r0 2)]) (st := [.ref r10150]) (lm_1_194) rfl rfl (Nat.le_of_ble_eq_true rfl) rfl (by decide) (s_31 w10234 ⟨by omega, by omega⟩ ⟨by omega, by omega⟩) (fun R10244 T10245 H10246 p10247 => ?_))
        obtain ⟨e10248, e10250, z10251, e10249, b10252⟩ := p10247
        subst e10248
        subst e10249
        subst e10250
        show wp _ _ 30 104 [(2, .ref r10150), (0, .ref r0), (1, .ref r1)] [vI z10251, .ref r10150] _ H10230 _
        refine wp_of e30 c30_104 (xp_I (pc' := 107) lf_1_197 w10234 g10152 sh_35 (by decide) (by decide) ty_35_12 rfl rfl (by omega) (by omega) ⟨by omega, by omega⟩ rfl (fun H10253 e10254 w10255 => ?_))
        have f10256 := f10238.put' e10254 g10152 rfl
        have k10257 : H10253 r10150 12 = z10251 := wq_u_s e10254
        refine wp_of e30 c30_107 (rw_aload_n (pc' := 108) (v := .ref r0) rfl rfl rfl ?_)
        have k10258 : H10253 r0 0 = H10217 r0 0 := ((wq_u_t e10254 g10152 g0 rfl 0).trans (f10235 r0 0 _ g0 rfl))
        have q10259 : H10253 r0 0 = (tk : Int) := k10258.trans q10225
        refine wp_of e30 c30_108 (xg_K (pc' := 111) lf_1_12 w10255 g0 sh_3 (by decide) (by decide) rfl q10259 rfl ?_)
        refine wp_of e30 c30_111 (rw_gs (pc' := 114) (k := 26) rfl rfl rfl rfl ?_)
        have k10260 : H10253 26 0 = ((42 : Nat) : Int) := (w10255.2 26 _ (w10255.1.2.2 10 (by decide))).2.2 0 (by decide) |> fun z => by have z1 : (42 : Int) ≤ H10253 26 0 ∧ H10253 26 0 ≤ 42 := z; omega
        refine wp_of e30 c30_114 (rw_getR (pc' := 117) (n := 2) (b := 42) (e := _) (lf_1_181).choose_spec.1 (lf_1_181).choose_spec.2.1 (w10255.sh (w10255.1.2.2 10 (by decide)) rfl) (by decide) rfl k10260 rfl ?_)
        refine wp_of e30 c30_117 (xc_V (pc' := 120) (r := tk) (as := [.ref 42]) (st := []) (lm_1_185) rfl rfl (Nat.le_of_ble_eq_true rfl) w10255 gtk sh_4 (by decide) rfl (by decide) (s_19 w10255 gtk rfl) (fun R10261 T10262 H10263 p10264 => ?_))
        obtain ⟨e10265, e10267, z10268, e10266, b10269⟩ := p10264
        subst e10265
        subst e10266
        subst e10267
        show wp _ _ 30 120 [(2, .ref r10150), (0, .ref r0), (1, .ref r1)] [vI z10268] _ H10253 _
        refine wp_of e30 c30_120 (rw_if_eq (p1 := 135) (p2 := 123) (by decide) rfl ⟨by omega, by omega⟩ (fun c10270 => ?_) (fun c10270 => ?_))
        · refine wp_of e30 c30_135 (rw_aload_n (pc' := 136) (v := .ref r1) rfl rfl rfl ?_)
          refine wp_of e30 c30_136 (rw_dup (pc' := 137) rfl rfl ?_)
          have k10271 : H10253 r1 10 = H r1 10 := ((wq_u_t e10254 g10152 g1 rfl 10).trans ((f10235 r1 10 _ g1 rfl).trans (f10222 r1 10 _ g1 rfl)))
          refine wp_of e30 c30_137 (xg_I (pc' := 140) lf_1_44 w10255 g1 sh_27 (by decide) (by decide) ty_27_10 rfl rfl (fun b10272 b10273 => ?_))
          refine wp_of e30 c30_140 (rw_iconst (pc' := 141) rfl ?_)
          refine wp_of e30 c30_141 (rw_iadd (pc' := 142) rfl ?_)
          refine wp_of e30 c30_142 (xp_I (pc' := 145) lf_1_44 w10255 g1 sh_27 (by decide) (by decide) ty_27_10 rfl rfl (by omega) (by omega) ⟨by omega, by omega⟩ rfl (fun H10274 e10275 w10276 => ?_))
          have f10277 := f10256.put' e10275 g1 rfl
          have k10278 : H10274 r1 10 = (H10253 r1 10) + 1 := wq_u_s e10275
          refine wp_of e30 c30_145 (rw_iconst (pc' := 146) rfl ?_)
          exact wp_zreturn e30 c30_146 rfl (by omega) ⟨rfl, w10276, f10277, 1, rfl, ⟨by omega, by omega⟩⟩
        · refine wp_of e30 c30_123 (rw_aload_n (pc' := 124) (v := .ref r0) rfl rfl rfl ?_)
          refine wp_of e30 c30_124 (xg_K (pc' := 127) lf_1_12 w10255 g0 sh_3 (by decide) (by decide) rfl q10259 rfl ?_)
          have k10279 : H10253 tk 0 = H10217 tk 0 := ((wq_u_t e10254 g10152 gtk rfl 0).trans (f10235 tk 0 _ gtk rfl))
          have q10280 : H10253 tk 0 = (rb : Int) := k10279.trans q10227
          refine wp_of e30 c30_127 (xc_V (pc' := 130) (r := tk) (as := []) (st := []) (lm_1_74) rfl rfl (Nat.le_of_ble_eq_true rfl) w10255 gtk sh_4 (by decide) rfl (by decide) (s_16 w10255 gtk q10280 grb) (fun R10281 T10282 H10283 p10284 => ?_))
          obtain ⟨e10285, w10287, f10288, e10286⟩ := p10284
          subst e10285
          subst e10286
          have f10289 := f10256.tr f10288 rfl
          show wp _ _ 30 130 [(2, .ref r10150), (0, .ref r0), (1, .ref r1)] [] _ H10283 _
          refine wp_of e30 c30_130 (rw_aload_n (pc' := 131) (v := .ref r10150) rfl rfl rfl ?_)
          refine wp_of e30 c30_131 (rw_iconst (pc' := 132) rfl ?_)
          refine wp_of e30 c30_132 (xp_Z (pc' := 135) lf_1_203 w10287 g10152 sh_35 (by decide) (by decide) ty_35_13 rfl rfl (by omega) (by omega) rfl (fun H10290 e10291 w10292 => ?_))
          have f10293 := f10289.put' e10291 g10152 rfl
          have k10294 : H10290 r10150 13 = 1 := wq_u_s e10291
          refine wp_of e30 c30_135 (rw_aload_n (pc' := 136) (v := .ref r1) rfl rfl rfl ?_)
          refine wp_of e30 c30_136 (rw_dup (pc' := 137) rfl rfl ?_)
          have k10295 : H10290 r1 10 = H r1 10 := ((wq_u_t e10291 g10152 g1 rfl 10).trans ((f10288 r1 10 _ g1 rfl).trans ((wq_u_t e10254 g10152 g1 rfl 10).trans ((f10235 r1 10 _ g1 rfl).trans (f10222 r1 10 _ g1 rfl)))))
          refine wp_of e30 c30_137 (xg_I (pc' := 140) lf_1_44 w10292 g1 sh_27 (by decide) (by decide) ty_27_10 rfl rfl (fun b10296 b10297 => ?_))
          refine wp_of e30 c30_140 (rw_iconst (pc' := 141) rfl ?_)
          refine wp_of e30 c30_141 (rw_iadd (pc' := 142) rfl ?_)
          refine wp_of e30 c30_142 (xp_I (pc' := 145) lf_1_44 w10292 g1 sh_27 (by decide) (by decide) ty_27_10 rfl rfl (by omega) (by omega) ⟨by omega, by omega⟩ rfl (fun H10298 e10299 w10300 => ?_))
          have f10301 := f10293.put' e10299 g1 rfl
          have k10302 : H10298 r1 10 = (H10290 r1 10) + 1 := wq_u_s e10299
          refine wp_of e30 c30_145 (rw_iconst (pc' := 146) rfl ?_)
          exact wp_zreturn e30 c30_146 rfl (by omega) ⟨rfl, w10300, f10301, 1, rfl, ⟨by omega, by omega⟩⟩
      · refine wp_of e30 c30_90 (rw_iconst (pc' := 91) rfl ?_)
        exact wp_zreturn e30 c30_91 rfl (by omega) ⟨rfl, w10234, f10238, 0, rfl, ⟨by omega, by omega⟩⟩
  · refine wp_of e30 c30_26 (rw_aload_n (pc' := 27) (v := .ref r0) rfl rfl rfl ?_)
    refine wp_of e30 c30_27 (xg_K (pc' := 30) lf_1_12 hW g0 sh_3 (by decide) (by decide) rfl qtk rfl ?_)
    refine wp_of e30 c30_30 (xc_V (pc' := 33) (r := tk) (as := []) (st := []) (lm_1_74) rfl rfl (Nat.le_of_ble_eq_true rfl) hW gtk sh_4 (by decide) rfl (by decide) (s_16 hW gtk qrb grb) (fun R10303 T10304 H10305 p10306 => ?_))
    obtain ⟨e10307, w10309, f10310, e10308⟩ := p10306
    subst e10307
    subst e10308
    have f10311 := f0.tr f10310 rfl
    show wp _ _ 30 33 [(2, .ref r10150), (0, .ref r0), (1, .ref r1)] [] _ H10305 _
    refine wp_of e30 c30_33 (rw_aload_n (pc' := 34) (v := .ref r10150) rfl rfl rfl ?_)
    refine wp_of e30 c30_34 (rw_aload_n (pc' := 35) (v := .ref r0) rfl rfl rfl ?_)
    refine wp_of e30 c30_35 (rw_iconst (pc' := 36) rfl ?_)
    refine wp_of e30 c30_36 (rw_bipush (pc' := 38) (z := 23) rfl (by decide) ?_)
    have k10312 : H10305 r0 0 = H r0 0 := (f10310 r0 0 _ g0 rfl)
    have q10313 : H10305 r0 0 = (tk : Int) := k10312.trans qtk
    have k10314 : H10305 tk 0 = H tk 0 := (f10310 tk 0 _ gtk rfl)
    have q10315 : H10305 tk 0 = (rb : Int) := k10314.trans qrb
    refine wp_of e30 c30_38 (xc_V (pc' := 41) (r := r0) (as := [vI 0, vI 23]) (st := [.ref r10150]) (lm_1_119) rfl rfl (Nat.le_of_ble_eq_true rfl) w10309 g0 sh_3 (by decide) rfl (by decide) (s_24 w10309 g0 ⟨by omega, by omega⟩ ⟨by omega, by omega⟩ q10313 gtk q10315 grb) (fun R10316 T10317 H10318 p10319 => ?_))
    obtain ⟨e10320, w10322, f10323, z10325, e10321, b10326, p10324⟩ := p10319
    subst e10320
    subst e10321
    have f10327 := f10311.tr f10323 rfl
    show wp _ _ 30 41 [(2, .ref r10150), (0, .ref r0), (1, .ref r1)] [vI z10325, .ref r10150] _ H10318 _
    refine wp_of e30 c30_41 (xp_I (pc' := 44) lf_1_188 w10322 g10152 sh_35 (by decide) (by decide) ty_35_11 rfl rfl (by omega) (by omega) ⟨by omega, by omega⟩ rfl (fun H10328 e10329 w10330 => ?_))
    have f10331 := f10327.put' e10329 g10152 rfl
    have k10332 : H10328 r10150 11 = z10325 := wq_u_s e10329
    refine wp_of e30 c30_44 (rw_aload_n (pc' := 45) (v := .ref r10150) rfl rfl rfl ?_)
    refine wp_of e30 c30_45 (xg_I (pc' := 48) lf_1_188 w10330 g10152 sh_35 (by decide) (by decide) ty_35_11 rfl rfl (fun b10333 b10334 => ?_))
    refine wp_of e30 c30_48 (rw_if_ge (p1 := 53) (p2 := 51) (by decide) rfl ⟨by omega, by omega⟩ (fun c10335 => ?_) (fun c10335 => ?_))
    · refine wp_of e30 c30_53 (rw_aload_n (pc' := 54) (v := .ref r0) rfl rfl rfl ?_)
      have k10336 : H10328 r0 0 = H10305 r0 0 := ((wq_u_t e10329 g10152 g0 rfl 0).trans (f10323 r0 0 _ g0 rfl))
      have q10337 : H10328 r0 0 = (tk : Int) := k10336.trans q10313
      refine wp_of e30 c30_54 (xg_K (pc' := 57) lf_1_12 w10330 g0 sh_3 (by decide) (by decide) rfl q10337 rfl ?_)
      refine wp_of e30 c30_57 (rw_gs (pc' := 60) (k := 25) rfl rfl rfl rfl ?_)
      have k10338 : H10328 25 0 = ((41 : Nat) : Int) := (w10330.2 25 _ (w10330.1.2.2 9 (by decide))).2.2 0 (by decide) |> fun z => by have z1 : (41 : Int) ≤ H10328 25 0 ∧ H10328 25 0 ≤ 41 := z; omega
      refine wp_of e30 c30_60 (rw_getR (pc' := 63) (n := 2) (b := 41) (e := _) (lf_1_181).choose_spec.1 (lf_1_181).choose_spec.2.1 (w10330.sh (w10330.1.2.2 9 (by decide)) rfl) (by decide) rfl k10338 rfl ?_)
      refine wp_of e30 c30_63 (xc_V (pc' := 66) (r := tk) (as := [.ref 41]) (st := []) (lm_1_185) rfl rfl (Nat.le_of_ble_eq_true rfl) w10330 gtk sh_4 (by decide) rfl (by decide) (s_19 w10330 gtk rfl) (fun R10339 T10340 H10341 p10342 => ?_))
      obtain ⟨e10343, e10345, z10346, e10344, b10347⟩ := p10342
      subst e10343
      subst e10344
      subst e10345
      show wp _ _ 30 66 [(2, .ref r10150), (0, .ref r0), (1, .ref r1)] [vI z10346] _ H10328 _
      refine wp_of e30 c30_66 (rw_if_eq (p1 := 107) (p2 := 69) (by decide) rfl ⟨by omega, by omega⟩ (fun c10348 => ?_) (fun c10348 => ?_))
      · refine wp_of e30 c30_107 (rw_aload_n (pc' := 108) (v := .ref r0) rfl rfl rfl ?_)
        refine wp_of e30 c30_108 (xg_K (pc' := 111) lf_1_12 w10330 g0 sh_3 (by decide) (by decide) rfl q10337 rfl ?_)
        refine wp_of e30 c30_111 (rw_gs (pc' := 114) (k := 26) rfl rfl rfl rfl ?_)
        have k10349 : H10328 26 0 = ((42 : Nat) : Int) := (w10330.2 26 _ (w10330.1.2.2 10 (by decide))).2.2 0 (by decide) |> fun z => by have z1 : (42 : Int) ≤ H10328 26 0 ∧ H10328 26 0 ≤ 42 := z; omega
        refine wp_of e30 c30_114 (rw_getR (pc' := 117) (n := 2) (b := 42) (e := _) (lf_1_181).choose_spec.1 (lf_1_181).choose_spec.2.1 (w10330.sh (w10330.1.2.2 10 (by decide)) rfl) (by decide) rfl k10349 rfl ?_)
        refine wp_of e30 c30_117 (xc_V (pc' := 120) (r := tk) (as := [.ref 42]) (st := []) (lm_1_185) rfl rfl (Nat.le_of_ble_eq_true rfl) w10330 gtk sh_4 (by decide) rfl (by decide) (s_19 w10330 gtk rfl) (fun R10350 T10351 H10352 p10353 => ?_))
        obtain ⟨e10354, e10356, z10357, e10355, b10358⟩ := p10353
        subst e10354
        subst e10355
        subst e10356
        show wp _ _ 30 120 [(2, .ref r10150), (0, .ref r0), (1, .ref r1)] [vI z10357] _ H10328 _
        refine wp_of e30 c30_120 (rw_if_eq (p1 := 135) (p2 := 123) (by decide) rfl ⟨by omega, by omega⟩ (fun c10359 => ?_) (fun c10359 => ?_))
        · refine wp_of e30 c30_135 (rw_aload_n (pc' := 136) (v := .ref r1) rfl rfl rfl ?_)
          refine wp_of e30 c30_136 (rw_dup (pc' := 137) rfl rfl ?_)
          have k10360 : H10328 r1 10 = H r1 10 := ((wq_u_t e10329 g10152 g1 rfl 10).trans ((f10323 r1 10 _ g1 rfl).trans (f10310 r1 10 _ g1 rfl)))
          refine wp_of e30 c30_137 (xg_I (pc' := 140) lf_1_44 w10330 g1 sh_27 (by decide) (by decide) ty_27_10 rfl rfl (fun b10361 b10362 => ?_))
          refine wp_of e30 c30_140 (rw_iconst (pc' := 141) rfl ?_)
          refine wp_of e30 c30_141 (rw_iadd (pc' := 142) rfl ?_)
          refine wp_of e30 c30_142 (xp_I (pc' := 145) lf_1_44 w10330 g1 sh_27 (by decide) (by decide) ty_27_10 rfl rfl (by omega) (by omega) ⟨by omega, by omega⟩ rfl (fun H10363 e10364 w10365 => ?_))
          have f10366 := f10331.put' e10364 g1 rfl
          have k10367 : H10363 r1 10 = (H10328 r1 10) + 1 := wq_u_s e10364
          refine wp_of e30 c30_145 (rw_iconst (pc' := 146) rfl ?_)
          exact wp_zreturn e30 c30_146 rfl (by omega) ⟨rfl, w10365, f10366, 1, rfl, ⟨by omega, by omega⟩⟩
        · refine wp_of e30 c30_123 (rw_aload_n (pc' := 124) (v := .ref r0) rfl rfl rfl ?_)
          refine wp_of e30 c30_124 (xg_K (pc' := 127) lf_1_12 w10330 g0 sh_3 (by decide) (by decide) rfl q10337 rfl ?_)
          have k10368 : H10328 tk 0 = H10305 tk 0 := ((wq_u_t e10329 g10152 gtk rfl 0).trans (f10323 tk 0 _ gtk rfl))
          have q10369 : H10328 tk 0 = (rb : Int) := k10368.trans q10315
          refine wp_of e30 c30_127 (xc_V (pc' := 130) (r := tk) (as := []) (st := []) (lm_1_74) rfl rfl (Nat.le_of_ble_eq_true rfl) w10330 gtk sh_4 (by decide) rfl (by decide) (s_16 w10330 gtk q10369 grb) (fun R10370 T10371 H10372 p10373 => ?_))
          obtain ⟨e10374, w10376, f10377, e10375⟩ := p10373
          subst e10374
          subst e10375
          have f10378 := f10331.tr f10377 rfl
          show wp _ _ 30 130 [(2, .ref r10150), (0, .ref r0), (1, .ref r1)] [] _ H10372 _
          refine wp_of e30 c30_130 (rw_aload_n (pc' := 131) (v := .ref r10150) rfl rfl rfl ?_)
          refine wp_of e30 c30_131 (rw_iconst (pc' := 132) rfl ?_)
          refine wp_of e30 c30_132 (xp_Z (pc' := 135) lf_1_203 w10376 g10152 sh_35 (by decide) (by decide) ty_35_13 rfl rfl (by omega) (by omega) rfl (fun H10379 e10380 w10381 => ?_))
          have f10382 := f10378.put' e10380 g10152 rfl
          have k10383 : H10379 r10150 13 = 1 := wq_u_s e10380
          refine wp_of e30 c30_135 (rw_aload_n (pc' := 136) (v := .ref r1) rfl rfl rfl ?_)
          refine wp_of e30 c30_136 (rw_dup (pc' := 137) rfl rfl ?_)
          have k10384 : H10379 r1 10 = H r1 10 := ((wq_u_t e10380 g10152 g1 rfl 10).trans ((f10377 r1 10 _ g1 rfl).trans ((wq_u_t e10329 g10152 g1 rfl 10).trans ((f10323 r1 10 _ g1 rfl).trans (f10310 r1 10 _ g1 rfl)))))
          refine wp_of e30 c30_137 (xg_I (pc' := 140) lf_1_44 w10381 g1 sh_27 (by decide) (by decide) ty_27_10 rfl rfl (fun b10385 b10386 => ?_))
          refine wp_of e30 c30_140 (rw_iconst (pc' := 141) rfl ?_)
          refine wp_of e30 c30_141 (rw_iadd (pc' := 142) rfl ?_)
          refine wp_of e30 c30_142 (xp_I (pc' := 145) lf_1_44 w10381 g1 sh_27 (by decide) (by decide) ty_27_10 rfl rfl (by omega) (by omega) ⟨by omega, by omega⟩ rfl (fun H10387 e10388 w10389 => ?_))
          have f10390 := f10382.put' e10388 g1 rfl
          have k10391 : H10387 r1 10 = (H10379 r1 10) + 1 := wq_u_s e10388
          refine wp_of e30 c30_145 (rw_iconst (pc' := 146) rfl ?_)
          exact wp_zreturn e30 c30_146 rfl (by omega) ⟨rfl, w10389, f10390, 1, rfl, ⟨by omega, by omega⟩⟩
      · refine wp_of e30 c30_69 (rw_aload_n (pc' := 70) (v := .ref r0) rfl rfl rfl ?_)
        refine wp_of e30 c30_70 (xg_K (pc' := 73) lf_1_12 w10330 g0 sh_3 (by decide) (by decide) rfl q10337 rfl ?_)
        have k10392 : H10328 tk 0 = H10305 tk 0 := ((wq_u_t e10329 g10152 gtk rfl 0).trans (f10323 tk 0 _ gtk rfl))
        have q10393 : H10328 tk 0 = (rb : Int) := k10392.trans q10315
        refine wp_of e30 c30_73 (xc_V (pc' := 76) (r := tk) (as := []) (st := []) (lm_1_74) rfl rfl (Nat.le_of_ble_eq_true rfl) w10330 gtk sh_4 (by decide) rfl (by decide) (s_16 w10330 gtk q10393 grb) (fun R10394 T10395 H10396 p10397 => ?_))
        obtain ⟨e10398, w10400, f10401, e10399⟩ := p10397
        subst e10398
        subst e10399
        have f10402 := f10331.tr f10401 rfl
        show wp _ _ 30 76 [(2, .ref r10150), (0, .ref r0), (1, .ref r1)] [] _ H10396 _
        refine wp_of e30 c30_76 (rw_aload_n (pc' := 77) (v := .ref r0) rfl rfl rfl ?_)
        refine wp_of e30 c30_77 (rw_bipush (pc' := 79) (z := 23) rfl (by decide) ?_)
        refine wp_of e30 c30_79 (rw_iconst (pc' := 80) rfl ?_)
        refine wp_of e30 c30_80 (rw_bipush (pc' := 82) (z := 24) rfl (by decide) ?_)
        refine wp_of e30 c30_82 (rw_bipush (pc' := 84) (z := 24) rfl (by decide) ?_)
        have k10403 : H10396 r0 0 = H10328 r0 0 := (f10401 r0 0 _ g0 rfl)
        have q10404 : H10396 r0 0 = (tk : Int) := k10403.trans q10337
        have k10405 : H10396 tk 0 = H10328 tk 0 := (f10401 tk 0 _ gtk rfl)
        have q10406 : H10396 tk 0 = (rb : Int) := k10405.trans q10393
        refine wp_of e30 c30_84 (xc_V (pc' := 87) (r := r0) (as := [vI 23, vI 1, vI 24, vI 24]) (st := []) (lm_1_154) rfl rfl (Nat.le_of_ble_eq_true rfl) w10400 g0 sh_3 (by decide) rfl (by decide) (s_29 w10400 g0 ⟨by omega, by omega⟩ ⟨by omega, by omega⟩ ⟨by omega, by omega⟩ ⟨by omega, by omega⟩ q10404 gtk q10406 grb) (fun R10407 T10408 H10409 p10410 => ?_))
        obtain ⟨e10411, w10413, f10414, z10415, e10412, b10416⟩ := p10410
        subst e10411
        subst e10412
        have f10417 := f10402.tr f10414 rfl
        show wp _ _ 30 87 [(2, .ref r10150), (0, .ref r0), (1, .ref r1)] [vI z10415] _ H10409 _
        refine wp_of e30 c30_87 (rw_if_ne (p1 := 92) (p2 := 90) (by decide) rfl ⟨by omega, by omega⟩ (fun c10418 => ?_) (fun c10418 => ?_))
        · refine wp_of e30 c30_92 (rw_aload_n (pc' := 93) (v := .ref r10150) rfl rfl rfl ?_)
          refine wp_of e30 c30_93 (rw_aload_n (pc' := 94) (v := .ref r0) rfl rfl rfl ?_)
          refine wp_of e30 c30_94 (xg_I (pc' := 97) lf_1_158 w10413 g0 sh_3 (by decide) (by decide) ty_3_1 rfl rfl (fun b10419 b10420 => ?_))
          refine wp_of e30 c30_97 (rw_aload_n (pc' := 98) (v := .ref r0) rfl rfl rfl ?_)
          refine wp_of e30 c30_98 (xg_I (pc' := 101) lf_1_164 w10413 g0 sh_3 (by decide) (by decide) ty_3_2 rfl rfl (fun b10421 b10422 => ?_))
          refine wp_of e30 c30_101 (xc_S (pc' := 104) (as := [vI (H10409 r0 1), vI (H10409 r0 2)]) (st := [.ref r10150]) (lm_1_194) rfl rfl (Nat.le_of_ble_eq_true rfl) rfl (by decide) (s_31 w10413 ⟨by omega, by omega⟩ ⟨by omega, by omega⟩) (fun R10423 T10424 H10425 p10426 => ?_))
          obtain ⟨e10427, e10429, z10430, e10428, b10431⟩ := p10426
          subst e10427
          subst e10428
          subst e10429
          show wp _ _ 30 104 [(2, .ref r10150), (0, .ref r0), (1, .ref r1)] [vI z10430, .ref r10150] _ H10409 _
          refine wp_of e30 c30_104 (xp_I (pc' := 107) lf_1_197 w10413 g10152 sh_35 (by decide) (by decide) ty_35_12 rfl rfl (by omega) (by omega) ⟨by omega, by omega⟩ rfl (fun H10432 e10433 w10434 => ?_))
          have f10435 := f10417.put' e10433 g10152 rfl
          have k10436 : H10432 r10150 12 = z10430 := wq_u_s e10433
          refine wp_of e30 c30_107 (rw_aload_n (pc' := 108) (v := .ref r0) rfl rfl rfl ?_)
          have k10437 : H10432 r0 0 = H10396 r0 0 := ((wq_u_t e10433 g10152 g0 rfl 0).trans (f10414 r0 0 _ g0 rfl))
          have q10438 : H10432 r0 0 = (tk : Int) := k10437.trans q10404
          refine wp_of e30 c30_108 (xg_K (pc' := 111) lf_1_12 w10434 g0 sh_3 (by decide) (by decide) rfl q10438 rfl ?_)
          refine wp_of e30 c30_111 (rw_gs (pc' := 114) (k := 26) rfl rfl rfl rfl ?_)
          have k10439 : H10432 26 0 = ((42 : Nat) : Int) := (w10434.2 26 _ (w10434.1.2.2 10 (by decide))).2.2 0 (by decide) |> fun z => by have z1 : (42 : Int) ≤ H10432 26 0 ∧ H10432 26 0 ≤ 42 := z; omega
          refine wp_of e30 c30_114 (rw_getR (pc' := 117) (n := 2) (b := 42) (e := _) (lf_1_181).choose_spec.1 (lf_1_181).choose_spec.2.1 (w10434.sh (w10434.1.2.2 10 (by decide)) rfl) (by decide) rfl k10439 rfl ?_)
          refine wp_of e30 c30_117 (xc_V (pc' := 120) (r := tk) (as := [.ref 42]) (st := []) (lm_1_185) rfl rfl (Nat.le_of_ble_eq_true rfl) w10434 gtk sh_4 (by decide) rfl (by decide) (s_19 w10434 gtk rfl) (fun R10440 T10441 H10442 p10443 => ?_))
          obtain ⟨e10444, e10446, z10447, e10445, b10448⟩ := p10443
          subst e10444
          subst e10445
          subst e10446
          show wp _ _ 30 120 [(2, .ref r10150), (0, .ref r0), (1, .ref r1)] [vI z10447] _ H10432 _
          refine wp_of e30 c30_120 (rw_if_eq (p1 := 135) (p2 := 123) (by decide) rfl ⟨by omega, by omega⟩ (fun c10449 => ?_) (fun c10449 => ?_))
          · refine wp_of e30 c30_135 (rw_aload_n (pc' := 136) (v := .ref r1) rfl rfl rfl ?_)
            refine wp_of e30 c30_136 (rw_dup (pc' := 137) rfl rfl ?_)
            have k10450 : H10432 r1 10 = H r1 10 := ((wq_u_t e10433 g10152 g1 rfl 10).trans ((f10414 r1 10 _ g1 rfl).trans ((f10401 r1 10 _ g1 rfl).trans ((wq_u_t e10329 g10152 g1 rfl 10).trans ((f10323 r1 10 _ g1 rfl).trans (f10310 r1 10 _ g1 rfl))))))
            refine wp_of e30 c30_137 (xg_I (pc' := 140) lf_1_44 w10434 g1 sh_27 (by decide) (by decide) ty_27_10 rfl rfl (fun b10451 b10452 => ?_))
            refine wp_of e30 c30_140 (rw_iconst (pc' := 141) rfl ?_)
            refine wp_of e30 c30_141 (rw_iadd (pc' := 142) rfl ?_)
            refine wp_of e30 c30_142 (xp_I (pc' := 145) lf_1_44 w10434 g1 sh_27 (by decide) (by decide) ty_27_10 rfl rfl (by omega) (by omega) ⟨by omega, by omega⟩ rfl (fun H10453 e10454 w10455 => ?_))
            have f10456 := f10435.put' e10454 g1 rfl
            have k10457 : H10453 r1 10 = (H10432 r1 10) + 1 := wq_u_s e10454
            refine wp_of e30 c30_145 (rw_iconst (pc' := 146) rfl ?_)
            exact wp_zreturn e30 c30_146 rfl (by omega) ⟨rfl, w10455, f10456, 1, rfl, ⟨by omega, by omega⟩⟩
          · refine wp_of e30 c30_123 (rw_aload_n (pc' := 124) (v := .ref r0) rfl rfl rfl ?_)
            refine wp_of e30 c30_124 (xg_K (pc' := 127) lf_1_12 w10434 g0 sh_3 (by decide) (by decide) rfl q10438 rfl ?_)
            have k10458 : H10432 tk 0 = H10396 tk 0 := ((wq_u_t e10433 g10152 gtk rfl 0).trans (f10414 tk 0 _ gtk rfl))
            have q10459 : H10432 tk 0 = (rb : Int) := k10458.trans q10406
            refine wp_of e30 c30_127 (xc_V (pc' := 130) (r := tk) (as := []) (st := []) (lm_1_74) rfl rfl (Nat.le_of_ble_eq_true rfl) w10434 gtk sh_4 (by decide) rfl (by decide) (s_16 w10434 gtk q10459 grb) (fun R10460 T10461 H10462 p10463 => ?_))
            obtain ⟨e10464, w10466, f10467, e10465⟩ := p10463
            subst e10464
            subst e10465
            have f10468 := f10435.tr f10467 rfl
            show wp _ _ 30 130 [(2, .ref r10150), (0, .ref r0), (1, .ref r1)] [] _ H10462 _
            refine wp_of e30 c30_130 (rw_aload_n (pc' := 131) (v := .ref r10150) rfl rfl rfl ?_)
            refine wp_of e30 c30_131 (rw_iconst (pc' := 132) rfl ?_)
            refine wp_of e30 c30_132 (xp_Z (pc' := 135) lf_1_203 w10466 g10152 sh_35 (by decide) (by decide) ty_35_13 rfl rfl (by omega) (by omega) rfl (fun H10469 e10470 w10471 => ?_))
            have f10472 := f10468.put' e10470 g10152 rfl
            have k10473 : H10469 r10150 13 = 1 := wq_u_s e10470
            refine wp_of e30 c30_135 (rw_aload_n (pc' := 136) (v := .ref r1) rfl rfl rfl ?_)
            refine wp_of e30 c30_136 (rw_dup (pc' := 137) rfl rfl ?_)
            have k10474 : H10469 r1 10 = H r1 10 := ((wq_u_t e10470 g10152 g1 rfl 10).trans ((f10467 r1 10 _ g1 rfl).trans ((wq_u_t e10433 g10152 g1 rfl 10).trans ((f10414 r1 10 _ g1 rfl).trans ((f10401 r1 10 _ g1 rfl).trans ((wq_u_t e10329 g10152 g1 rfl 10).trans ((f10323 r1 10 _ g1 rfl).trans (f10310 r1 10 _ g1 rfl))))))))
            refine wp_of e30 c30_137 (xg_I (pc' := 140) lf_1_44 w10471 g1 sh_27 (by decide) (by decide) ty_27_10 rfl rfl (fun b10475 b10476 => ?_))
            refine wp_of e30 c30_140 (rw_iconst (pc' := 141) rfl ?_)
            refine wp_of e30 c30_141 (rw_iadd (pc' := 142) rfl ?_)
            refine wp_of e30 c30_142 (xp_I (pc' := 145) lf_1_44 w10471 g1 sh_27 (by decide) (by decide) ty_27_10 rfl rfl (by omega) (by omega) ⟨by omega, by omega⟩ rfl (fun H10477 e10478 w10479 => ?_))
            have f10480 := f10472.put' e10478 g1 rfl
            have k10481 : H10477 r1 10 = (H10469 r1 10) + 1 := wq_u_s e10478
            refine wp_of e30 c30_145 (rw_iconst (pc' := 146) rfl ?_)
            exact wp_zreturn e30 c30_146 rfl (by omega) ⟨rfl, w10479, f10480, 1, rfl, ⟨by omega, by omega⟩⟩
        · refine wp_of e30 c30_90 (rw_iconst (pc' := 91) rfl ?_)
          exact wp_zreturn e30 c30_91 rfl (by omega) ⟨rfl, w10413, f10417, 0, rfl, ⟨by omega, by omega⟩⟩
    · refine wp_of e30 c30_51 (rw_iconst (pc' := 52) rfl ?_)
      exact wp_zreturn e30 c30_52 rfl (by omega) ⟨rfl, w10330, f10331, 0, rfl, ⟨by omega, by omega⟩⟩
