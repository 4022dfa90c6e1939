/-! methods (own work, written by wip/gen2/sx.py) -/
/-! StrikeAwake$Tokens.begin([BI)V -/
theorem e15 : wq_en 15 = some (2, 3, false, none) := rfl
theorem c15_0 : mc_cd 15 0 = some (.aload_n 0, 1) := by decide +kernel
theorem c15_1 : mc_cd 15 1 = some (.aload_n 1, 1) := by decide +kernel
theorem c15_2 : mc_cd 15 2 = some (.putfield 7, 3) := by decide +kernel
theorem c15_5 : mc_cd 15 5 = some (.aload_n 0, 1) := by decide +kernel
theorem c15_6 : mc_cd 15 6 = some (.iload_n 2, 1) := by decide +kernel
theorem c15_7 : mc_cd 15 7 = some (.aload_n 1, 1) := by decide +kernel
theorem c15_8 : mc_cd 15 8 = some (.arraylength, 1) := by decide +kernel
theorem c15_9 : mc_cd 15 9 = some (.invokestatic 13, 3) := by decide +kernel
theorem c15_12 : mc_cd 15 12 = some (.putfield 19, 3) := by decide +kernel
theorem c15_15 : mc_cd 15 15 = some (.aload_n 0, 1) := by decide +kernel
theorem c15_16 : mc_cd 15 16 = some (.iconst 0, 1) := by decide +kernel
theorem c15_17 : mc_cd 15 17 = some (.putfield 23, 3) := by decide +kernel
theorem c15_20 : mc_cd 15 20 = some (.aload_n 0, 1) := by decide +kernel
theorem c15_21 : mc_cd 15 21 = some (.invokevirtual 26, 3) := by decide +kernel
theorem c15_24 : mc_cd 15 24 = some (.return_, 1) := by decide +kernel
abbrev q_15 (r0 : Nat) (r1 : Nat) (a2 : Int) (T : wq_T) (H : wq_H) : Option Value → wq_T → wq_H → Prop := fun r T' H' => T = T' ∧ WT T H' ∧ wfr [(4, 0), (4, 1), (4, 2), (4, 3), (4, 4), (4, 5), (4, 6)] T H H' ∧ none = r ∧ (H' r0 0 = (r1 : Int))
set_option maxHeartbeats 4000000 in
theorem s_15 {kt : Nat → Option mc_E} {T : wq_T} {H : wq_H} {r0 : Nat} {r1 : Nat} {a2 : Int} (hW : WT T H) (g0 : T.2.2.2 r0 = some 4) (g1 : T.2.2.2 r1 = some 2) (i2 : 0 ≤ a2 ∧ a2 ≤ 900) : wpc kt 2 15 [.ref r0, .ref r1, vI a2] T H (q_15 r0 r1 a2 T H) := by
  refine wp_enter e15 (Nat.le_of_ble_eq_true rfl) rfl ?_
  have f0 : wfr [(4, 0), (4, 1), (4, 2), (4, 3), (4, 4), (4, 5), (4, 6)] T H H := wfr.rf
  show wp _ _ 15 0 [(0, .ref r0), (1, .ref r1), (2, vI a2)] [] _ H _
  refine wp_of e15 c15_0 (rw_aload_n (pc' := 1) (v := .ref r0) rfl rfl rfl ?_)
  refine wp_of e15 c15_1 (rw_aload_n (pc' := 2) (v := .ref r1) rfl rfl rfl ?_)
  refine wp_of e15 c15_2 (xp_R (pc' := 5) lf_2_7 hW g0 sh_4 (by decide) (by decide) rfl rfl (wok_4 ty_4_0 g1) rfl (fun H6121 e6122 w6123 => ?_))
  have f6124 := f0.put' e6122 g0 rfl
  have q6125 : H6121 r0 0 = (r1 : Int) := wq_u_s e6122
  refine wp_of e15 c15_5 (rw_aload_n (pc' := 6) (v := .ref r0) rfl rfl rfl ?_)
  refine wp_of e15 c15_6 (rw_iload_n (pc' := 7) (z := a2) rfl rfl ?_)
  refine wp_of e15 c15_7 (rw_aload_n (pc' := 8) (v := .ref r1) rfl rfl rfl ?_)
  refine wp_of e15 c15_8 (xa_N (pc' := 9) (n := 900) w6123 g1 sh_2 (by decide) rfl ?_)
  refine wp_of e15 c15_9 (rw_math2 (pc' := 12) (z := min a2 900) rfl rfl ⟨by omega, by omega⟩ ⟨by omega, by omega⟩ (Or.inl ⟨rfl, rfl⟩) (Nat.le_of_ble_eq_true rfl) rfl ?_)
  obtain ⟨v6126, e6127⟩ : ∃ x : Int, x = min a2 900 := ⟨_, rfl⟩
  rw [← e6127]
  have b6128 : v6126 = a2 ∨ v6126 = 900 := by
    rw [e6127]
    omega
  have b6129 : v6126 ≤ a2 ∧ v6126 ≤ 900 := by
    rw [e6127]
    omega
  refine wp_of e15 c15_12 (xp_I (pc' := 15) lf_2_19 w6123 g0 sh_4 (by decide) (by decide) ty_4_1 rfl rfl (by omega) (by omega) ⟨by omega, by omega⟩ rfl (fun H6130 e6131 w6132 => ?_))
  have f6133 := f6124.put' e6131 g0 rfl
  have k6134 : H6130 r0 1 = v6126 := wq_u_s e6131
  refine wp_of e15 c15_15 (rw_aload_n (pc' := 16) (v := .ref r0) rfl rfl rfl ?_)
  refine wp_of e15 c15_16 (rw_iconst (pc' := 17) rfl ?_)
  refine wp_of e15 c15_17 (xp_I (pc' := 20) lf_2_23 w6132 g0 sh_4 (by decide) (by decide) ty_4_2 rfl rfl (by omega) (by omega) ⟨by omega, by omega⟩ rfl (fun H6135 e6136 w6137 => ?_))
  have f6138 := f6133.put' e6136 g0 rfl
  have k6139 : H6135 r0 2 = 0 := wq_u_s e6136
  refine wp_of e15 c15_20 (rw_aload_n (pc' := 21) (v := .ref r0) rfl rfl rfl ?_)
  have k6140 : H6135 r0 0 = H6121 r0 0 := ((wq_u_j e6136 rfl).trans (wq_u_j e6131 rfl))
  have q6141 : H6135 r0 0 = (r1 : Int) := k6140.trans q6125
  refine wp_of e15 c15_21 (xc_V (pc' := 24) (r := r0) (as := []) (st := []) (lm_2_26) rfl rfl (Nat.le_of_ble_eq_true rfl) w6137 g0 sh_4 (by decide) rfl (by decide) (s_16 w6137 g0 q6141 g1) (fun R6142 T6143 H6144 p6145 => ?_))
  obtain ⟨e6146, w6148, f6149, e6147⟩ := p6145
  subst e6146
  subst e6147
  have f6150 := f6138.tr f6149 rfl
  show wp _ _ 15 24 [(0, .ref r0), (1, .ref r1), (2, vI a2)] [] _ H6144 _
  have k6151 : H6144 r0 0 = H6135 r0 0 := (f6149 r0 0 _ g0 rfl)
  have q6152 : H6144 r0 0 = (r1 : Int) := k6151.trans q6141
  exact wp_return e15 c15_24 rfl ⟨rfl, w6148, f6150, rfl, by omega⟩
/-! StrikeAwake$Tokens.isWord(Ljava/lang/String;)Z -/
theorem e19 : wq_en 19 = some (2, 5, false, some FieldType.boolean) := rfl
theorem c19_0 : mc_cd 19 0 = some (.aload_n 0, 1) := by decide +kernel
theorem c19_1 : mc_cd 19 1 = some (.getfield 41, 3) := by decide +kernel
theorem c19_4 : mc_cd 19 4 = some (.iconst 1, 1) := by decide +kernel
theorem c19_5 : mc_cd 19 5 = some (.if_icmp .eq 5, 3) := by decide +kernel
theorem c19_8 : mc_cd 19 8 = some (.iconst 0, 1) := by decide +kernel
theorem c19_9 : mc_cd 19 9 = some (.ireturn, 1) := by decide +kernel
theorem c19_10 : mc_cd 19 10 = some (.lconst 0, 1) := by decide +kernel
theorem c19_11 : mc_cd 19 11 = some (.lstore_n 2, 1) := by decide +kernel
theorem c19_12 : mc_cd 19 12 = some (.iconst 0, 1) := by decide +kernel
theorem c19_13 : mc_cd 19 13 = some (.istore 4, 2) := by decide +kernel
theorem c19_15 : mc_cd 19 15 = some (.iload 4, 2) := by decide +kernel
theorem c19_17 : mc_cd 19 17 = some (.aload_n 1, 1) := by decide +kernel
theorem c19_18 : mc_cd 19 18 = some (.invokevirtual 44, 3) := by decide +kernel
theorem c19_21 : mc_cd 19 21 = some (.if_icmp .ge 28, 3) := by decide +kernel
theorem c19_24 : mc_cd 19 24 = some (.lload_n 2, 1) := by decide +kernel
theorem c19_25 : mc_cd 19 25 = some (.ldc2_w 36, 3) := by decide +kernel
theorem c19_28 : mc_cd 19 28 = some (.lmul, 1) := by decide +kernel
theorem c19_29 : mc_cd 19 29 = some (.aload_n 1, 1) := by decide +kernel
theorem c19_30 : mc_cd 19 30 = some (.iload 4, 2) := by decide +kernel
theorem c19_32 : mc_cd 19 32 = some (.invokevirtual 49, 3) := by decide +kernel
theorem c19_35 : mc_cd 19 35 = some (.bipush 97, 2) := by decide +kernel
theorem c19_37 : mc_cd 19 37 = some (.isub, 1) := by decide +kernel
theorem c19_38 : mc_cd 19 38 = some (.iconst 1, 1) := by decide +kernel
theorem c19_39 : mc_cd 19 39 = some (.iadd, 1) := by decide +kernel
theorem c19_40 : mc_cd 19 40 = some (.i2l, 1) := by decide +kernel
theorem c19_41 : mc_cd 19 41 = some (.ladd, 1) := by decide +kernel
theorem c19_42 : mc_cd 19 42 = some (.lstore_n 2, 1) := by decide +kernel
theorem c19_43 : mc_cd 19 43 = some (.iinc 4 1, 3) := by decide +kernel
theorem c19_46 : mc_cd 19 46 = some (.goto (-31), 3) := by decide +kernel
theorem c19_49 : mc_cd 19 49 = some (.lload_n 2, 1) := by decide +kernel
theorem c19_50 : mc_cd 19 50 = some (.aload_n 0, 1) := by decide +kernel
theorem c19_51 : mc_cd 19 51 = some (.getfield 32, 3) := by decide +kernel
theorem c19_54 : mc_cd 19 54 = some (.lcmp, 1) := by decide +kernel
theorem c19_55 : mc_cd 19 55 = some (.ifCond .ne 7, 3) := by decide +kernel
theorem c19_58 : mc_cd 19 58 = some (.iconst 1, 1) := by decide +kernel
theorem c19_59 : mc_cd 19 59 = some (.goto 4, 3) := by decide +kernel
theorem c19_62 : mc_cd 19 62 = some (.iconst 0, 1) := by decide +kernel
theorem c19_63 : mc_cd 19 63 = some (.ireturn, 1) := by decide +kernel
abbrev q_19 (r0 : Nat) (s1 : Nat) (T : wq_T) (H : wq_H) : Option Value → wq_T → wq_H → Prop := fun r T' H' => T = T' ∧ H = H' ∧ ∃ z : Int, some (vI z) = r ∧ (0 ≤ z ∧ z ≤ 1)
set_option maxHeartbeats 4000000 in
theorem s_19 {kt : Nat → Option mc_E} {T : wq_T} {H : wq_H} {r0 : Nat} {s1 : Nat} {t1 : List Int32} (hW : WT T H) (g0 : T.2.2.2 r0 = some 4) (h1 : mc_find mc_sb s1 = some t1) : wpc kt 1 19 [.ref r0, .ref s1] T H (q_19 r0 s1 T H) := by
  refine wp_enter e19 (Nat.le_of_ble_eq_true rfl) rfl ?_
  show wp _ _ 19 0 [(0, .ref r0), (1, .ref s1)] [] _ H _
  refine wp_of e19 c19_0 (rw_aload_n (pc' := 1) (v := .ref r0) rfl rfl rfl ?_)
  refine wp_of e19 c19_1 (xg_I (pc' := 4) lf_2_41 hW g0 sh_4 (by decide) (by decide) ty_4_3 rfl rfl (fun b6257 b6258 => ?_))
  refine wp_of e19 c19_4 (rw_iconst (pc' := 5) rfl ?_)
  refine wp_of e19 c19_5 (rw_icmp_eq (p1 := 10) (p2 := 8) (by decide) rfl ⟨by omega, by omega⟩ ⟨by omega, by omega⟩ (fun c6259 => ?_) (fun c6259 => ?_))
  · refine wp_of e19 c19_10 (rw_lconst (pc' := 11) (z := 0) rfl rfl ?_)
    refine wp_of e19 c19_11 (rw_lstore_n (pc' := 12) (z := 0) (L' := [(2, vL 0), (0, .ref r0), (1, .ref s1)]) rfl rfl rfl ?_)
    refine wp_of e19 c19_12 (rw_iconst (pc' := 13) rfl ?_)
    refine wp_of e19 c19_13 (rw_istore (pc' := 15) (z := 0) (L' := [(4, vI 0), (2, vL 0), (0, .ref r0), (1, .ref s1)]) rfl rfl rfl ?_)
    have lp6344 : ∀ (n6345 : Nat) (v6347 : Int) (v6348 : Int), (0 ≤ v6347 ∧ v6347 ≤ 63) → ((-9223372036854775808) ≤ v6348 ∧ v6348 ≤ 9223372036854775807) → (63 - v6347).toNat = n6345 → wp kt 0 19 15 [(4, vI v6347), (2, vL v6348), (0, .ref r0), (1, .ref s1)] [] T H (q_19 r0 s1 T H) := by
      intro n6345
      induction n6345 using Nat.strongRecOn with
      | _ n6345 ih6346 =>
        intro v6347 v6348 b6351 b6352 m6353
        refine wp_of e19 c19_15 (rw_iload (pc' := 17) (z := v6347) rfl rfl ?_)
        refine wp_of e19 c19_17 (rw_aload_n (pc' := 18) (v := .ref s1) rfl rfl rfl ?_)
        refine wp_of e19 c19_18 (rw_slen (pc' := 21) rfl rfl rfl h1 (Nat.le_of_ble_eq_true rfl) rfl ?_)
        have k6354 := (mc_sb_k h1).2.1
        show wp _ _ 19 21 [(4, vI v6347), (2, vL v6348), (0, .ref r0), (1, .ref s1)] [vI ((t1.length : Int)), vI v6347] _ H _
        refine wp_of e19 c19_21 (rw_icmp_ge (p1 := 49) (p2 := 24) (by decide) rfl ⟨by omega, by omega⟩ ⟨by omega, by omega⟩ (fun c6355 => ?_) (fun c6355 => ?_))
        · refine wp_of e19 c19_49 (rw_lload_n (pc' := 50) (z := v6348) rfl rfl ?_)
          refine wp_of e19 c19_50 (rw_aload_n (pc' := 51) (v := .ref r0) rfl rfl rfl ?_)
          refine wp_of e19 c19_51 (xg_L (pc' := 54) lf_2_32 hW g0 sh_4 (by decide) (by decide) ty_4_6 rfl rfl (fun b6356 b6357 => ?_))
          refine wp_of e19 c19_54 (rw_lcmp (pc' := 55) rfl ⟨by omega, by omega⟩ ⟨by omega, by omega⟩ ?_)
          have b6358 := wq_cmp_b v6348 (H r0 6)
          refine wp_of e19 c19_55 (rw_if_ne (p1 := 62) (p2 := 58) (by decide) rfl ⟨by omega, by omega⟩ (fun c6359 => ?_) (fun c6359 => ?_))
          · refine wp_of e19 c19_62 (rw_iconst (pc' := 63) rfl ?_)
            exact wp_zreturn e19 c19_63 rfl (by omega) ⟨rfl, rfl, 0, rfl, ⟨by omega, by omega⟩⟩
          · refine wp_of e19 c19_58 (rw_iconst (pc' := 59) rfl ?_)
            refine wp_of e19 c19_59 (rw_goto (p1 := 63) (by decide) ?_)
            exact wp_zreturn e19 c19_63 rfl (by omega) ⟨rfl, rfl, 1, rfl, ⟨by omega, by omega⟩⟩
        · refine wp_of e19 c19_24 (rw_lload_n (pc' := 25) (z := v6348) rfl rfl ?_)
          refine wp_of e19 c19_25 (rw_ldc2 (pc' := 28) (z := 32) rfl rfl rfl ?_)
          refine wp_of e19 c19_28 (rw_lmulw (pc' := 29) rfl ?_)
          obtain ⟨v6360, e6361⟩ : ∃ x : Int, x = wl_w (v6348 * 32) := ⟨_, rfl⟩
          rw [← e6361]
          have b6362 : -9223372036854775808 ≤ v6360 ∧ v6360 ≤ 9223372036854775807 := by
            rw [e6361]
            exact wL_w _
          refine wp_of e19 c19_29 (rw_aload_n (pc' := 30) (v := .ref s1) rfl rfl rfl ?_)
          refine wp_of e19 c19_30 (rw_iload (pc' := 32) (z := v6347) rfl rfl ?_)
          refine wp_of e19 c19_32 (rw_schr (pc' := 35) rfl rfl rfl h1 (by omega) (by omega) (Nat.le_of_ble_eq_true rfl) rfl ?_)
          obtain ⟨v6363, e6364⟩ : ∃ x : Int, x = (t1.getD (v6347).toNat 0).toInt := ⟨_, rfl⟩
          rw [← e6364]
          have b6365 : -2147483648 ≤ v6363 ∧ v6363 ≤ 2147483647 := by
            rw [e6364]
            exact wI_of _
          refine wp_of e19 c19_35 (rw_bipush (pc' := 37) (z := 97) rfl (by decide) ?_)
          refine wp_of e19 c19_37 (rw_isubw (pc' := 38) rfl ?_)
          obtain ⟨v6366, e6367⟩ : ∃ x : Int, x = wq_w (v6363 - 97) := ⟨_, rfl⟩
          rw [← e6367]
          have b6368 : -2147483648 ≤ v6366 ∧ v6366 ≤ 2147483647 := by
            rw [e6367]
            exact wI_w _
          refine wp_of e19 c19_38 (rw_iconst (pc' := 39) rfl ?_)
          refine wp_of e19 c19_39 (rw_iaddw (pc' := 40) rfl ?_)
          obtain ⟨v6369, e6370⟩ : ∃ x : Int, x = wq_w (v6366 + 1) := ⟨_, rfl⟩
          rw [← e6370]
          have b6371 : -2147483648 ≤ v6369 ∧ v6369 ≤ 2147483647 := by
            rw [e6370]
            exact wI_w _
          refine wp_of e19 c19_40 (rw_i2l (pc' := 41) rfl ⟨by omega, by omega⟩ ?_)
          refine wp_of e19 c19_41 (rw_laddw (pc' := 42) rfl ?_)
          obtain ⟨v6372, e6373⟩ : ∃ x : Int, x = wl_w (v6360 + v6369) := ⟨_, rfl⟩
          rw [← e6373]
          have b6374 : -9223372036854775808 ≤ v6372 ∧ v6372 ≤ 9223372036854775807 := by
            rw [e6373]
            exact wL_w _
          refine wp_of e19 c19_42 (rw_lstore_n (pc' := 43) (z := v6372) (L' := [(2, vL v6372), (4, vI v6347), (0, .ref r0), (1, .ref s1)]) rfl rfl rfl ?_)
          refine wp_of e19 c19_43 (rw_iinc (pc' := 46) (z := v6347) (L' := [(4, vI (v6347 + 1)), (2, vL v6372), (0, .ref r0), (1, .ref s1)]) rfl rfl rfl rfl ?_)
          refine wp_of e19 c19_46 (rw_goto (p1 := 15) (by decide) ?_)
          exact wp_lc (ks := [4, 2, 0, 1]) (wl_c rfl (wl_c rfl (wl_c rfl (wl_c rfl wl_n)))) rfl (by decide) (ih6346 _ (by omega) (v6347 + 1) v6372 ⟨by omega, by omega⟩ ⟨by omega, by omega⟩ rfl)
    exact wp_lc (ks := [4, 2, 0, 1]) (wl_c rfl (wl_c rfl (wl_c rfl (wl_c rfl wl_n)))) rfl (by decide) (lp6344 _ 0 0 ⟨by omega, by omega⟩ ⟨by omega, by omega⟩ rfl)
  · refine wp_of e19 c19_8 (rw_iconst (pc' := 9) rfl ?_)
    exact wp_zreturn e19 c19_9 rfl (by omega) ⟨rfl, rfl, 0, rfl, ⟨by omega, by omega⟩⟩
/-! StrikeAwake$Reader.reserved()LStrikeAwake$Reserved; -/
theorem e18 : wq_en 18 = some (1, 2, false, some (FieldType.object "StrikeAwake$Reserved")) := rfl
theorem c18_0 : mc_cd 18 0 = some (.iconst 0, 1) := by decide +kernel
theorem c18_1 : mc_cd 18 1 = some (.istore_n 1, 1) := by decide +kernel
theorem c18_2 : mc_cd 18 2 = some (.iload_n 1, 1) := by decide +kernel
theorem c18_3 : mc_cd 18 3 = some (.getstatic 258, 3) := by decide +kernel
theorem c18_6 : mc_cd 18 6 = some (.arraylength, 1) := by decide +kernel
theorem c18_7 : mc_cd 18 7 = some (.if_icmp .ge 33, 3) := by decide +kernel
theorem c18_10 : mc_cd 18 10 = some (.aload_n 0, 1) := by decide +kernel
theorem c18_11 : mc_cd 18 11 = some (.getfield 12, 3) := by decide +kernel
theorem c18_14 : mc_cd 18 14 = some (.getstatic 258, 3) := by decide +kernel
theorem c18_17 : mc_cd 18 17 = some (.iload_n 1, 1) := by decide +kernel
theorem c18_18 : mc_cd 18 18 = some (.aaload, 1) := by decide +kernel
theorem c18_19 : mc_cd 18 19 = some (.getfield 181, 3) := by decide +kernel
theorem c18_22 : mc_cd 18 22 = some (.invokevirtual 185, 3) := by decide +kernel
theorem c18_25 : mc_cd 18 25 = some (.ifCond .eq 9, 3) := by decide +kernel
theorem c18_28 : mc_cd 18 28 = some (.getstatic 258, 3) := by decide +kernel
theorem c18_31 : mc_cd 18 31 = some (.iload_n 1, 1) := by decide +kernel
theorem c18_32 : mc_cd 18 32 = some (.aaload, 1) := by decide +kernel
theorem c18_33 : mc_cd 18 33 = some (.areturn, 1) := by decide +kernel
theorem c18_34 : mc_cd 18 34 = some (.iinc 1 1, 3) := by decide +kernel
theorem c18_37 : mc_cd 18 37 = some (.goto (-35), 3) := by decide +kernel
theorem c18_40 : mc_cd 18 40 = some (.aconst_null, 1) := by decide +kernel
theorem c18_41 : mc_cd 18 41 = some (.areturn, 1) := by decide +kernel
abbrev q_18 (r0 : Nat) (T : wq_T) (H : wq_H) : Option Value → wq_T → wq_H → Prop := fun r T' H' => T = T' ∧ H = H' ∧ (some .null = r ∨ ∃ b : Nat, some (.ref b) = r ∧ 16 ≤ b ∧ b < 27)
set_option maxHeartbeats 4000000 in
theorem s_18 {kt : Nat → Option mc_E} {T : wq_T} {H : wq_H} {r0 : Nat} (hW : WT T H) (g0 : T.2.2.2 r0 = some 3) : wpc kt 2 18 [.ref r0] T H (q_18 r0 T H) := by
  refine wp_enter e18 (Nat.le_of_ble_eq_true rfl) rfl ?_
  show wp _ _ 18 0 [(0, .ref r0)] [] _ H _
  refine wp_of e18 c18_0 (rw_iconst (pc' := 1) rfl ?_)
  refine wp_of e18 c18_1 (rw_istore_n (pc' := 2) (z := 0) (L' := [(1, vI 0), (0, .ref r0)]) rfl rfl rfl ?_)
  have lp7653 : ∀ (n7654 : Nat) (v7656 : Int), (0 ≤ v7656 ∧ v7656 ≤ 11) → (11 - v7656).toNat = n7654 → wp kt 1 18 2 [(1, vI v7656), (0, .ref r0)] [] T H (q_18 r0 T H) := by
    intro n7654
    induction n7654 using Nat.strongRecOn with
    | _ n7654 ih7655 =>
      intro v7656 b7659 m7660
      refine wp_of e18 c18_2 (rw_iload_n (pc' := 3) (z := v7656) rfl rfl ?_)
      refine wp_of e18 c18_3 (rw_gs (pc' := 6) (k := 1) rfl rfl rfl rfl ?_)
      refine wp_of e18 c18_6 (rw_alen (pc' := 7) (n := 11) (hW.sh hW.1.1 rfl) (by decide) rfl ?_)
      refine wp_of e18 c18_7 (rw_icmp_ge (p1 := 40) (p2 := 10) (by decide) rfl ⟨by omega, by omega⟩ ⟨by omega, by omega⟩ (fun c7661 => ?_) (fun c7661 => ?_))
      · refine wp_of e18 c18_40 (rw_null (pc' := 41) rfl ?_)
        exact wp_areturn e18 c18_41 rfl rfl ⟨rfl, rfl, Or.inl rfl⟩
      · refine wp_of e18 c18_10 (rw_aload_n (pc' := 11) (v := .ref r0) rfl rfl rfl ?_)
        refine wp_of e18 c18_11 (xg_R (pc' := 14) lf_1_12 hW g0 sh_3 (by decide) (by decide) ty_3_0 rfl rfl (fun r7662 q7663 g7664 => ?_))
        refine wp_of e18 c18_14 (rw_gs (pc' := 17) (k := 1) rfl rfl rfl rfl ?_)
        refine wp_of e18 c18_17 (rw_iload_n (pc' := 18) (z := v7656) rfl rfl ?_)
        have c7666 : v7656 = 0 ∨ v7656 = 1 ∨ v7656 = 2 ∨ v7656 = 3 ∨ v7656 = 4 ∨ v7656 = 5 ∨ v7656 = 6 ∨ v7656 = 7 ∨ v7656 = 8 ∨ v7656 = 9 ∨ v7656 = 10 := by omega
        rcases c7666 with c7666 | c7666 | c7666 | c7666 | c7666 | c7666 | c7666 | c7666 | c7666 | c7666 | c7666
        · subst c7666
          have k7668 : H 1 (0 : Int).toNat = ((16 : Nat) : Int) := (hW.2 1 _ hW.1.1).2.2 0 (by decide) |> fun z => by have z1 : (16 : Int) ≤ H 1 0 ∧ H 1 0 ≤ 16 := z; exact Int.le_antisymm z1.2 z1.1
          refine wp_of e18 c18_18 (rw_aaload (pc' := 19) (n := 11) (b := 16) (hW.sh hW.1.1 rfl) (by decide) (by decide) (by decide) rfl k7668 rfl ?_)
          have k7669 : H 16 0 = ((32 : Nat) : Int) := (hW.2 16 _ (hW.1.2.2 0 (by decide))).2.2 0 (by decide) |> fun z => by have z1 : (32 : Int) ≤ H 16 0 ∧ H 16 0 ≤ 32 := z; omega
          refine wp_of e18 c18_19 (rw_getR (pc' := 22) (n := 2) (b := 32) (e := _) (lf_1_181).choose_spec.1 (lf_1_181).choose_spec.2.1 (hW.sh (hW.1.2.2 0 (by decide)) rfl) (by decide) rfl k7669 rfl ?_)
          refine wp_of e18 c18_22 (xc_V (pc' := 25) (r := r7662) (as := [.ref 32]) (st := []) (lm_1_185) rfl rfl (Nat.le_of_ble_eq_true rfl) hW g7664 sh_4 (by decide) rfl (by decide) (s_19 hW g7664 rfl) (fun R7670 T7671 H7672 p7673 => ?_))
          obtain ⟨e7674, e7676, z7677, e7675, b7678⟩ := p7673
          subst e7674
          subst e7675
          subst e7676
          show wp _ _ 18 25 [(1, vI 0), (0, .ref r0)] [vI z7677] _ H _
          refine wp_of e18 c18_25 (rw_if_eq (p1 := 34) (p2 := 28) (by decide) rfl ⟨by omega, by omega⟩ (fun c7679 => ?_) (fun c7679 => ?_))
          · refine wp_of e18 c18_34 (rw_iinc (pc' := 37) (z := 0) (L' := [(1, vI (0 + 1)), (0, .ref r0)]) rfl rfl rfl rfl ?_)
            refine wp_of e18 c18_37 (rw_goto (p1 := 2) (by decide) ?_)
            exact wp_lc (ks := [1, 0]) (wl_c rfl (wl_c rfl wl_n)) rfl (by decide) (ih7655 _ (by omega) (0 + 1) ⟨by omega, by omega⟩ rfl)
          · refine wp_of e18 c18_28 (rw_gs (pc' := 31) (k := 1) rfl rfl rfl rfl ?_)
            refine wp_of e18 c18_31 (rw_iload_n (pc' := 32) (z := 0) rfl rfl ?_)
            have k7681 : H 1 (0 : Int).toNat = ((16 : Nat) : Int) := (hW.2 1 _ hW.1.1).2.2 0 (by decide) |> fun z => by have z1 : (16 : Int) ≤ H 1 0 ∧ H 1 0 ≤ 16 := z; exact Int.le_antisymm z1.2 z1.1
            refine wp_of e18 c18_32 (rw_aaload (pc' := 33) (n := 11) (b := 16) (hW.sh hW.1.1 rfl) (by decide) (by decide) (by decide) rfl k7681 rfl ?_)
            exact wp_areturn e18 c18_33 rfl rfl ⟨rfl, rfl, Or.inr ⟨16, rfl, by decide, by decide⟩⟩
        · subst c7666
          have k7683 : H 1 (1 : Int).toNat = ((17 : Nat) : Int) := (hW.2 1 _ hW.1.1).2.2 1 (by decide) |> fun z => by have z1 : (17 : Int) ≤ H 1 1 ∧ H 1 1 ≤ 17 := z; exact Int.le_antisymm z1.2 z1.1
          refine wp_of e18 c18_18 (rw_aaload (pc' := 19) (n := 11) (b := 17) (hW.sh hW.1.1 rfl) (by decide) (by decide) (by decide) rfl k7683 rfl ?_)
          have k7684 : H 17 0 = ((33 : Nat) : Int) := (hW.2 17 _ (hW.1.2.2 1 (by decide))).2.2 0 (by decide) |> fun z => by have z1 : (33 : Int) ≤ H 17 0 ∧ H 17 0 ≤ 33 := z; omega
          refine wp_of e18 c18_19 (rw_getR (pc' := 22) (n := 2) (b := 33) (e := _) (lf_1_181).choose_spec.1 (lf_1_181).choose_spec.2.1 (hW.sh (hW.1.2.2 1 (by decide)) rfl) (by decide) rfl k7684 rfl ?_)
          refine wp_of e18 c18_22 (xc_V (pc' := 25) (r := r7662) (as := [.ref 33]) (st := []) (lm_1_185) rfl rfl (Nat.le_of_ble_eq_true rfl) hW g7664 sh_4 (by decide) rfl (by decide) (s_19 hW g7664 rfl) (fun R7685 T7686 H7687 p7688 => ?_))
          obtain ⟨e7689, e7691, z7692, e7690, b7693⟩ := p7688
          subst e7689
          subst e7690
          subst e7691
          show wp _ _ 18 25 [(1, vI 1), (0, .ref r0)] [vI z7692] _ H _
          refine wp_of e18 c18_25 (rw_if_eq (p1 := 34) (p2 := 28) (by decide) rfl ⟨by omega, by omega⟩ (fun c7694 => ?_) (fun c7694 => ?_))
          · refine wp_of e18 c18_34 (rw_iinc (pc' := 37) (z := 1) (L' := [(1, vI (1 + 1)), (0, .ref r0)]) rfl rfl rfl rfl ?_)
            refine wp_of e18 c18_37 (rw_goto (p1 := 2) (by decide) ?_)
            exact wp_lc (ks := [1, 0]) (wl_c rfl (wl_c rfl wl_n)) rfl (by decide) (ih7655 _ (by omega) (1 + 1) ⟨by omega, by omega⟩ rfl)
          · refine wp_of e18 c18_28 (rw_gs (pc' := 31) (k := 1) rfl rfl rfl rfl ?_)
            refine wp_of e18 c18_31 (rw_iload_n (pc' := 32) (z := 1) rfl rfl ?_)
            have k7696 : H 1 (1 : Int).toNat = ((17 : Nat) : Int) := (hW.2 1 _ hW.1.1).2.2 1 (by decide) |> fun z => by have z1 : (17 : Int) ≤ H 1 1 ∧ H 1 1 ≤ 17 := z; exact Int.le_antisymm z1.2 z1.1
            refine wp_of e18 c18_32 (rw_aaload (pc' := 33) (n := 11) (b := 17) (hW.sh hW.1.1 rfl) (by decide) (by decide) (by decide) rfl k7696 rfl ?_)
            exact wp_areturn e18 c18_33 rfl rfl ⟨rfl, rfl, Or.inr ⟨17, rfl, by decide, by decide⟩⟩
        · subst c7666
          have k7698 : H 1 (2 : Int).toNat = ((18 : Nat) : Int) := (hW.2 1 _ hW.1.1).2.2 2 (by decide) |> fun z => by have z1 : (18 : Int) ≤ H 1 2 ∧ H 1 2 ≤ 18 := z; exact Int.le_antisymm z1.2 z1.1
          refine wp_of e18 c18_18 (rw_aaload (pc' := 19) (n := 11) (b := 18) (hW.sh hW.1.1 rfl) (by decide) (by decide) (by decide) rfl k7698 rfl ?_)
          have k7699 : H 18 0 = ((34 : Nat) : Int) := (hW.2 18 _ (hW.1.2.2 2 (by decide))).2.2 0 (by decide) |> fun z => by have z1 : (34 : Int) ≤ H 18 0 ∧ H 18 0 ≤ 34 := z; omega
          refine wp_of e18 c18_19 (rw_getR (pc' := 22) (n := 2) (b := 34) (e := _) (lf_1_181).choose_spec.1 (lf_1_181).choose_spec.2.1 (hW.sh (hW.1.2.2 2 (by decide)) rfl) (by decide) rfl k7699 rfl ?_)
          refine wp_of e18 c18_22 (xc_V (pc' := 25) (r := r7662) (as := [.ref 34]) (st := []) (lm_1_185) rfl rfl (Nat.le_of_ble_eq_true rfl) hW g7664 sh_4 (by decide) rfl (by decide) (s_19 hW g7664 rfl) (fun R7700 T7701 H7702 p7703 => ?_))
          obtain ⟨e7704, e7706, z7707, e7705, b7708⟩ := p7703
          subst e7704
          subst e7705
          subst e7706
          show wp _ _ 18 25 [(1, vI 2), (0, .ref r0)] [vI z7707] _ H _
          refine wp_of e18 c18_25 (rw_if_eq (p1 := 34) (p2 := 28) (by decide) rfl ⟨by omega, by omega⟩ (fun c7709 => ?_) (fun c7709 => ?_))
          · refine wp_of e18 c18_34 (rw_iinc (pc' := 37) (z := 2) (L' := [(1, vI (2 + 1)), (0, .ref r0)]) rfl rfl rfl rfl ?_)
            refine wp_of e18 c18_37 (rw_goto (p1 := 2) (by decide) ?_)
            exact wp_lc (ks := [1, 0]) (wl_c rfl (wl_c rfl wl_n)) rfl (by decide) (ih7655 _ (by omega) (2 + 1) ⟨by omega, by omega⟩ rfl)
          · refine wp_of e18 c18_28 (rw_gs (pc' := 31) (k := 1) rfl rfl rfl rfl ?_)
            refine wp_of e18 c18_31 (rw_iload_n (pc' := 32) (z := 2) rfl rfl ?_)
            have k7711 : H 1 (2 : Int).toNat = ((18 : Nat) : Int) := (hW.2 1 _ hW.1.1).2.2 2 (by decide) |> fun z => by have z1 : (18 : Int) ≤ H 1 2 ∧ H 1 2 ≤ 18 := z; exact Int.le_antisymm z1.2 z1.1
            refine wp_of e18 c18_32 (rw_aaload (pc' := 33) (n := 11) (b := 18) (hW.sh hW.1.1 rfl) (by decide) (by decide) (by decide) rfl k7711 rfl ?_)
            exact wp_areturn e18 c18_33 rfl rfl ⟨rfl, rfl, Or.inr ⟨18, rfl, by decide, by decide⟩⟩
        · subst c7666
          have k7713 : H 1 (3 : Int).toNat = ((19 : Nat) : Int) := (hW.2 1 _ hW.1.1).2.2 3 (by decide) |> fun z => by have z1 : (19 : Int) ≤ H 1 3 ∧ H 1 3 ≤ 19 := z; exact Int.le_antisymm z1.2 z1.1
          refine wp_of e18 c18_18 (rw_aaload (pc' := 19) (n := 11) (b := 19) (hW.sh hW.1.1 rfl) (by decide) (by decide) (by decide) rfl k7713 rfl ?_)
          have k7714 : H 19 0 = ((35 : Nat) : Int) := (hW.2 19 _ (hW.1.2.2 3 (by decide))).2.2 0 (by decide) |> fun z => by have z1 : (35 : Int) ≤ H 19 0 ∧ H 19 0 ≤ 35 := z; omega
          refine wp_of e18 c18_19 (rw_getR (pc' := 22) (n := 2) (b := 35) (e := _) (lf_1_181).choose_spec.1 (lf_1_181).choose_spec.2.1 (hW.sh (hW.1.2.2 3 (by decide)) rfl) (by decide) rfl k7714 rfl ?_)
          refine wp_of e18 c18_22 (xc_V (pc' := 25) (r := r7662) (as := [.ref 35]) (st := []) (lm_1_185) rfl rfl (Nat.le_of_ble_eq_true rfl) hW g7664 sh_4 (by decide) rfl (by decide) (s_19 hW g7664 rfl) (fun R7715 T7716 H7717 p7718 => ?_))
          obtain ⟨e7719, e7721, z7722, e7720, b7723⟩ := p7718
          subst e7719
          subst e7720
          subst e7721
          show wp _ _ 18 25 [(1, vI 3), (0, .ref r0)] [vI z7722] _ H _
          refine wp_of e18 c18_25 (rw_if_eq (p1 := 34) (p2 := 28) (by decide) rfl ⟨by omega, by omega⟩ (fun c7724 => ?_) (fun c7724 => ?_))
          · refine wp_of e18 c18_34 (rw_iinc (pc' := 37) (z := 3) (L' := [(1, vI (3 + 1)), (0, .ref r0)]) rfl rfl rfl rfl ?_)
            refine wp_of e18 c18_37 (rw_goto (p1 := 2) (by decide) ?_)
            exact wp_lc (ks := [1, 0]) (wl_c rfl (wl_c rfl wl_n)) rfl (by decide) (ih7655 _ (by omega) (3 + 1) ⟨by omega, by omega⟩ rfl)
          · refine wp_of e18 c18_28 (rw_gs (pc' := 31) (k := 1) rfl rfl rfl rfl ?_)
            refine wp_of e18 c18_31 (rw_iload_n (pc' := 32) (z := 3) rfl rfl ?_)
            have k7726 : H 1 (3 : Int).toNat = ((19 : Nat) : Int) := (hW.2 1 _ hW.1.1).2.2 3 (by decide) |> fun z => by have z1 : (19 : Int) ≤ H 1 3 ∧ H 1 3 ≤ 19 := z; exact Int.le_antisymm z1.2 z1.1
            refine wp_of e18 c18_32 (rw_aaload (pc' := 33) (n := 11) (b := 19) (hW.sh hW.1.1 rfl) (by decide) (by decide) (by decide) rfl k7726 rfl ?_)
            exact wp_areturn e18 c18_33 rfl rfl ⟨rfl, rfl, Or.inr ⟨19, rfl, by decide, by decide⟩⟩
        · subst c7666
          have k7728 : H 1 (4 : Int).toNat = ((20 : Nat) : Int) := (hW.2 1 _ hW.1.1).2.2 4 (by decide) |> fun z => by have z1 : (20 : Int) ≤ H 1 4 ∧ H 1 4 ≤ 20 := z; exact Int.le_antisymm z1.2 z1.1
          refine wp_of e18 c18_18 (rw_aaload (pc' := 19) (n := 11) (b := 20) (hW.sh hW.1.1 rfl) (by decide) (by decide) (by decide) rfl k7728 rfl ?_)
          have k7729 : H 20 0 = ((36 : Nat) : Int) := (hW.2 20 _ (hW.1.2.2 4 (by decide))).2.2 0 (by decide) |> fun z => by have z1 : (36 : Int) ≤ H 20 0 ∧ H 20 0 ≤ 36 := z; omega
          refine wp_of e18 c18_19 (rw_getR (pc' := 22) (n := 2) (b := 36) (e := _) (lf_1_181).choose_spec.1 (lf_1_181).choose_spec.2.1 (hW.sh (hW.1.2.2 4 (by decide)) rfl) (by decide) rfl k7729 rfl ?_)
          refine wp_of e18 c18_22 (xc_V (pc' := 25) (r := r7662) (as := [.ref 36]) (st := []) (lm_1_185) rfl rfl (Nat.le_of_ble_eq_true rfl) hW g7664 sh_4 (by decide) rfl (by decide) (s_19 hW g7664 rfl) (fun R7730 T7731 H7732 p7733 => ?_))
          obtain ⟨e7734, e7736, z7737, e7735, b7738⟩ := p7733
          subst e7734
          subst e7735
          subst e7736
          show wp _ _ 18 25 [(1, vI 4), (0, .ref r0)] [vI z7737] _ H _
          refine wp_of e18 c18_25 (rw_if_eq (p1 := 34) (p2 := 28) (by decide) rfl ⟨by omega, by omega⟩ (fun c7739 => ?_) (fun c7739 => ?_))
          · refine wp_of e18 c18_34 (rw_iinc (pc' := 37) (z := 4) (L' := [(1, vI (4 + 1)), (0, .ref r0)]) rfl rfl rfl rfl ?_)
            refine wp_of e18 c18_37 (rw_goto (p1 := 2) (by decide) ?_)
            exact wp_lc (ks := [1, 0]) (wl_c rfl (wl_c rfl wl_n)) rfl (by decide) (ih7655 _ (by omega) (4 + 1) ⟨by omega, by omega⟩ rfl)
          · refine wp_of e18 c18_28 (rw_gs (pc' := 31) (k := 1) rfl rfl rfl rfl ?_)
            refine wp_of e18 c18_31 (rw_iload_n (pc' := 32) (z := 4) rfl rfl ?_)
            have k7741 : H 1 (4 : Int).toNat = ((20 : Nat) : Int) := (hW.2 1 _ hW.1.1).2.2 4 (by decide) |> fun z => by have z1 : (20 : Int) ≤ H 1 4 ∧ H 1 4 ≤ 20 := z; exact Int.le_antisymm z1.2 z1.1
            refine wp_of e18 c18_32 (rw_aaload (pc' := 33) (n := 11) (b := 20) (hW.sh hW.1.1 rfl) (by decide) (by decide) (by decide) rfl k7741 rfl ?_)
            exact wp_areturn e18 c18_33 rfl rfl ⟨rfl, rfl, Or.inr ⟨20, rfl, by decide, by decide⟩⟩
        · subst c7666
          have k7743 : H 1 (5 : Int).toNat = ((21 : Nat) : Int) := (hW.2 1 _ hW.1.1).2.2 5 (by decide) |> fun z => by have z1 : (21 : Int) ≤ H 1 5 ∧ H 1 5 ≤ 21 := z; exact Int.le_antisymm z1.2 z1.1
          refine wp_of e18 c18_18 (rw_aaload (pc' := 19) (n := 11) (b := 21) (hW.sh hW.1.1 rfl) (by decide) (by decide) (by decide) rfl k7743 rfl ?_)
          have k7744 : H 21 0 = ((37 : Nat) : Int) := (hW.2 21 _ (hW.1.2.2 5 (by decide))).2.2 0 (by decide) |> fun z => by have z1 : (37 : Int) ≤ H 21 0 ∧ H 21 0 ≤ 37 := z; omega
          refine wp_of e18 c18_19 (rw_getR (pc' := 22) (n := 2) (b := 37) (e := _) (lf_1_181).choose_spec.1 (lf_1_181).choose_spec.2.1 (hW.sh (hW.1.2.2 5 (by decide)) rfl) (by decide) rfl k7744 rfl ?_)
          refine wp_of e18 c18_22 (xc_V (pc' := 25) (r := r7662) (as := [.ref 37]) (st := []) (lm_1_185) rfl rfl (Nat.le_of_ble_eq_true rfl) hW g7664 sh_4 (by decide) rfl (by decide) (s_19 hW g7664 rfl) (fun R7745 T7746 H7747 p7748 => ?_))
          obtain ⟨e7749, e7751, z7752, e7750, b7753⟩ := p7748
          subst e7749
          subst e7750
          subst e7751
          show wp _ _ 18 25 [(1, vI 5), (0, .ref r0)] [vI z7752] _ H _
          refine wp_of e18 c18_25 (rw_if_eq (p1 := 34) (p2 := 28) (by decide) rfl ⟨by omega, by omega⟩ (fun c7754 => ?_) (fun c7754 => ?_))
          · refine wp_of e18 c18_34 (rw_iinc (pc' := 37) (z := 5) (L' := [(1, vI (5 + 1)), (0, .ref r0)]) rfl rfl rfl rfl ?_)
            refine wp_of e18 c18_37 (rw_goto (p1 := 2) (by decide) ?_)
            exact wp_lc (ks := [1, 0]) (wl_c rfl (wl_c rfl wl_n)) rfl (by decide) (ih7655 _ (by omega) (5 + 1) ⟨by omega, by omega⟩ rfl)
          · refine wp_of e18 c18_28 (rw_gs (pc' := 31) (k := 1) rfl rfl rfl rfl ?_)
            refine wp_of e18 c18_31 (rw_iload_n (pc' := 32) (z := 5) rfl rfl ?_)
            have k7756 : H 1 (5 : Int).toNat = ((21 : Nat) : Int) := (hW.2 1 _ hW.1.1).2.2 5 (by decide) |> fun z => by have z1 : (21 : Int) ≤ H 1 5 ∧ H 1 5 ≤ 21 := z; exact Int.le_antisymm z1.2 z1.1
            refine wp_of e18 c18_32 (rw_aaload (pc' := 33) (n := 11) (b := 21) (hW.sh hW.1.1 rfl) (by decide) (by decide) (by decide) rfl k7756 rfl ?_)
            exact wp_areturn e18 c18_33 rfl rfl ⟨rfl, rfl, Or.inr ⟨21, rfl, by decide, by decide⟩⟩
        · subst c7666
          have k7758 : H 1 (6 : Int).toNat = ((22 : Nat) : Int) := (hW.2 1 _ hW.1.1).2.2 6 (by decide) |> fun z => by have z1 : (22 : Int) ≤ H 1 6 ∧ H 1 6 ≤ 22 := z; exact Int.le_antisymm z1.2 z1.1
          refine wp_of e18 c18_18 (rw_aaload (pc' := 19) (n := 11) (b := 22) (hW.sh hW.1.1 rfl) (by decide) (by decide) (by decide) rfl k7758 rfl ?_)
          have k7759 : H 22 0 = ((38 : Nat) : Int) := (hW.2 22 _ (hW.1.2.2 6 (by decide))).2.2 0 (by decide) |> fun z => by have z1 : (38 : Int) ≤ H 22 0 ∧ H 22 0 ≤ 38 := z; omega
          refine wp_of e18 c18_19 (rw_getR (pc' := 22) (n := 2) (b := 38) (e := _) (lf_1_181).choose_spec.1 (lf_1_181).choose_spec.2.1 (hW.sh (hW.1.2.2 6 (by decide)) rfl) (by decide) rfl k7759 rfl ?_)
          refine wp_of e18 c18_22 (xc_V (pc' := 25) (r := r7662) (as := [.ref 38]) (st := []) (lm_1_185) rfl rfl (Nat.le_of_ble_eq_true rfl) hW g7664 sh_4 (by decide) rfl (by decide) (s_19 hW g7664 rfl) (fun R7760 T7761 H7762 p7763 => ?_))
          obtain ⟨e7764, e7766, z7767, e7765, b7768⟩ := p7763
          subst e7764
          subst e7765
          subst e7766
          show wp _ _ 18 25 [(1, vI 6), (0, .ref r0)] [vI z7767] _ H _
          refine wp_of e18 c18_25 (rw_if_eq (p1 := 34) (p2 := 28) (by decide) rfl ⟨by omega, by omega⟩ (fun c7769 => ?_) (fun c7769 => ?_))
          · refine wp_of e18 c18_34 (rw_iinc (pc' := 37) (z := 6) (L' := [(1, vI (6 + 1)), (0, .ref r0)]) rfl rfl rfl rfl ?_)
            refine wp_of e18 c18_37 (rw_goto (p1 := 2) (by decide) ?_)
            exact wp_lc (ks := [1, 0]) (wl_c rfl (wl_c rfl wl_n)) rfl (by decide) (ih7655 _ (by omega) (6 + 1) ⟨by omega, by omega⟩ rfl)
          · refine wp_of e18 c18_28 (rw_gs (pc' := 31) (k := 1) rfl rfl rfl rfl ?_)
            refine wp_of e18 c18_31 (rw_iload_n (pc' := 32) (z := 6) rfl rfl ?_)
            have k7771 : H 1 (6 : Int).toNat = ((22 : Nat) : Int) := (hW.2 1 _ hW.1.1).2.2 6 (by decide) |> fun z => by have z1 : (22 : Int) ≤ H 1 6 ∧ H 1 6 ≤ 22 := z; exact Int.le_antisymm z1.2 z1.1
            refine wp_of e18 c18_32 (rw_aaload (pc' := 33) (n := 11) (b := 22) (hW.sh hW.1.1 rfl) (by decide) (by decide) (by decide) rfl k7771 rfl ?_)
            exact wp_areturn e18 c18_33 rfl rfl ⟨rfl, rfl, Or.inr ⟨22, rfl, by decide, by decide⟩⟩
        · subst c7666
          have k7773 : H 1 (7 : Int).toNat = ((23 : Nat) : Int) := (hW.2 1 _ hW.1.1).2.2 7 (by decide) |> fun z => by have z1 : (23 : Int) ≤ H 1 7 ∧ H 1 7 ≤ 23 := z; exact Int.le_antisymm z1.2 z1.1
          refine wp_of e18 c18_18 (rw_aaload (pc' := 19) (n := 11) (b := 23) (hW.sh hW.1.1 rfl) (by decide) (by decide) (by decide) rfl k7773 rfl ?_)
          have k7774 : H 23 0 = ((39 : Nat) : Int) := (hW.2 23 _ (hW.1.2.2 7 (by decide))).2.2 0 (by decide) |> fun z => by have z1 : (39 : Int) ≤ H 23 0 ∧ H 23 0 ≤ 39 := z; omega
          refine wp_of e18 c18_19 (rw_getR (pc' := 22) (n := 2) (b := 39) (e := _) (lf_1_181).choose_spec.1 (lf_1_181).choose_spec.2.1 (hW.sh (hW.1.2.2 7 (by decide)) rfl) (by decide) rfl k7774 rfl ?_)
          refine wp_of e18 c18_22 (xc_V (pc' := 25) (r := r7662) (as := [.ref 39]) (st := []) (lm_1_185) rfl rfl (Nat.le_of_ble_eq_true rfl) hW g7664 sh_4 (by decide) rfl (by decide) (s_19 hW g7664 rfl) (fun R7775 T7776 H7777 p7778 => ?_))
          obtain ⟨e7779, e7781, z7782, e7780, b7783⟩ := p7778
          subst e7779
          subst e7780
          subst e7781
          show wp _ _ 18 25 [(1, vI 7), (0, .ref r0)] [vI z7782] _ H _
          refine wp_of e18 c18_25 (rw_if_eq (p1 := 34) (p2 := 28) (by decide) rfl ⟨by omega, by omega⟩ (fun c7784 => ?_) (fun c7784 => ?_))
          · refine wp_of e18 c18_34 (rw_iinc (pc' := 37) (z := 7) (L' := [(1, vI (7 + 1)), (0, .ref r0)]) rfl rfl rfl rfl ?_)
            refine wp_of e18 c18_37 (rw_goto (p1 := 2) (by decide) ?_)
            exact wp_lc (ks := [1, 0]) (wl_c rfl (wl_c rfl wl_n)) rfl (by decide) (ih7655 _ (by omega) (7 + 1) ⟨by omega, by omega⟩ rfl)
          · refine wp_of e18 c18_28 (rw_gs (pc' := 31) (k := 1) rfl rfl rfl rfl ?_)
            refine wp_of e18 c18_31 (rw_iload_n (pc' := 32) (z := 7) rfl rfl ?_)
            have k7786 : H 1 (7 : Int).toNat = ((23 : Nat) : Int) := (hW.2 1 _ hW.1.1).2.2 7 (by decide) |> fun z => by have z1 : (23 : Int) ≤ H 1 7 ∧ H 1 7 ≤ 23 := z; exact Int.le_antisymm z1.2 z1.1
            refine wp_of e18 c18_32 (rw_aaload (pc' := 33) (n := 11) (b := 23) (hW.sh hW.1.1 rfl) (by decide) (by decide) (by decide) rfl k7786 rfl ?_)
            exact wp_areturn e18 c18_33 rfl rfl ⟨rfl, rfl, Or.inr ⟨23, rfl, by decide, by decide⟩⟩
        · subst c7666
          have k7788 : H 1 (8 : Int).toNat = ((24 : Nat) : Int) := (hW.2 1 _ hW.1.1).2.2 8 (by decide) |> fun z => by have z1 : (24 : Int) ≤ H 1 8 ∧ H 1 8 ≤ 24 := z; exact Int.le_antisymm z1.2 z1.1
          refine wp_of e18 c18_18 (rw_aaload (pc' := 19) (n := 11) (b := 24) (hW.sh hW.1.1 rfl) (by decide) (by decide) (by decide) rfl k7788 rfl ?_)
          have k7789 : H 24 0 = ((40 : Nat) : Int) := (hW.2 24 _ (hW.1.2.2 8 (by decide))).2.2 0 (by decide) |> fun z => by have z1 : (40 : Int) ≤ H 24 0 ∧ H 24 0 ≤ 40 := z; omega
          refine wp_of e18 c18_19 (rw_getR (pc' := 22) (n := 2) (b := 40) (e := _) (lf_1_181).choose_spec.1 (lf_1_181).choose_spec.2.1 (hW.sh (hW.1.2.2 8 (by decide)) rfl) (by decide) rfl k7789 rfl ?_)
          refine wp_of e18 c18_22 (xc_V (pc' := 25) (r := r7662) (as := [.ref 40]) (st := []) (lm_1_185) rfl rfl (Nat.le_of_ble_eq_true rfl) hW g7664 sh_4 (by decide) rfl (by decide) (s_19 hW g7664 rfl) (fun R7790 T7791 H7792 p7793 => ?_))
          obtain ⟨e7794, e7796, z7797, e7795, b7798⟩ := p7793
          subst e7794
          subst e7795
          subst e7796
          show wp _ _ 18 25 [(1, vI 8), (0, .ref r0)] [vI z7797] _ H _
          refine wp_of e18 c18_25 (rw_if_eq (p1 := 34) (p2 := 28) (by decide) rfl ⟨by omega, by omega⟩ (fun c7799 => ?_) (fun c7799 => ?_))
          · refine wp_of e18 c18_34 (rw_iinc (pc' := 37) (z := 8) (L' := [(1, vI (8 + 1)), (0, .ref r0)]) rfl rfl rfl rfl ?_)
            refine wp_of e18 c18_37 (rw_goto (p1 := 2) (by decide) ?_)
            exact wp_lc (ks := [1, 0]) (wl_c rfl (wl_c rfl wl_n)) rfl (by decide) (ih7655 _ (by omega) (8 + 1) ⟨by omega, by omega⟩ rfl)
          · refine wp_of e18 c18_28 (rw_gs (pc' := 31) (k := 1) rfl rfl rfl rfl ?_)
            refine wp_of e18 c18_31 (rw_iload_n (pc' := 32) (z := 8) rfl rfl ?_)
            have k7801 : H 1 (8 : Int).toNat = ((24 : Nat) : Int) := (hW.2 1 _ hW.1.1).2.2 8 (by decide) |> fun z => by have z1 : (24 : Int) ≤ H 1 8 ∧ H 1 8 ≤ 24 := z; exact Int.le_antisymm z1.2 z1.1
            refine wp_of e18 c18_32 (rw_aaload (pc' := 33) (n := 11) (b := 24) (hW.sh hW.1.1 rfl) (by decide) (by decide) (by decide) rfl k7801 rfl ?_)
            exact wp_areturn e18 c18_33 rfl rfl ⟨rfl, rfl, Or.inr ⟨24, rfl, by decide, by decide⟩⟩
        · subst c7666
          have k7803 : H 1 (9 : Int).toNat = ((25 : Nat) : Int) := (hW.2 1 _ hW.1.1).2.2 9 (by decide) |> fun z => by have z1 : (25 : Int) ≤ H 1 9 ∧ H 1 9 ≤ 25 := z; exact Int.le_antisymm z1.2 z1.1
          refine wp_of e18 c18_18 (rw_aaload (pc' := 19) (n := 11) (b := 25) (hW.sh hW.1.1 rfl) (by decide) (by decide) (by decide) rfl k7803 rfl ?_)
          have k7804 : H 25 0 = ((41 : Nat) : Int) := (hW.2 25 _ (hW.1.2.2 9 (by decide))).2.2 0 (by decide) |> fun z => by have z1 : (41 : Int) ≤ H 25 0 ∧ H 25 0 ≤ 41 := z; omega
          refine wp_of e18 c18_19 (rw_getR (pc' := 22) (n := 2) (b := 41) (e := _) (lf_1_181).choose_spec.1 (lf_1_181).choose_spec.2.1 (hW.sh (hW.1.2.2 9 (by decide)) rfl) (by decide) rfl k7804 rfl ?_)
          refine wp_of e18 c18_22 (xc_V (pc' := 25) (r := r7662) (as := [.ref 41]) (st := []) (lm_1_185) rfl rfl (Nat.le_of_ble_eq_true rfl) hW g7664 sh_4 (by decide) rfl (by decide) (s_19 hW g7664 rfl) (fun R7805 T7806 H7807 p7808 => ?_))
          obtain ⟨e7809, e7811, z7812, e7810, b7813⟩ := p7808
          subst e7809
          subst e7810
          subst e7811
          show wp _ _ 18 25 [(1, vI 9), (0, .ref r0)] [vI z7812] _ H _
          refine wp_of e18 c18_25 (rw_if_eq (p1 := 34) (p2 := 28) (by decide) rfl ⟨by omega, by omega⟩ (fun c7814 => ?_) (fun c7814 => ?_))
          · refine wp_of e18 c18_34 (rw_iinc (pc' := 37) (z := 9) (L' := [(1, vI (9 + 1)), (0, .ref r0)]) rfl rfl rfl rfl ?_)
            refine wp_of e18 c18_37 (rw_goto (p1 := 2) (by decide) ?_)
            exact wp_lc (ks := [1, 0]) (wl_c rfl (wl_c rfl wl_n)) rfl (by decide) (ih7655 _ (by omega) (9 + 1) ⟨by omega, by omega⟩ rfl)
          · refine wp_of e18 c18_28 (rw_gs (pc' := 31) (k := 1) rfl rfl rfl rfl ?_)
            refine wp_of e18 c18_31 (rw_iload_n (pc' := 32) (z := 9) rfl rfl ?_)
            have k7816 : H 1 (9 : Int).toNat = ((25 : Nat) : Int) := (hW.2 1 _ hW.1.1).2.2 9 (by decide) |> fun z => by have z1 : (25 : Int) ≤ H 1 9 ∧ H 1 9 ≤ 25 := z; exact Int.le_antisymm z1.2 z1.1
            refine wp_of e18 c18_32 (rw_aaload (pc' := 33) (n := 11) (b := 25) (hW.sh hW.1.1 rfl) (by decide) (by decide) (by decide) rfl k7816 rfl ?_)
            exact wp_areturn e18 c18_33 rfl rfl ⟨rfl, rfl, Or.inr ⟨25, rfl, by decide, by decide⟩⟩
        · subst c7666
          have k7818 : H 1 (10 : Int).toNat = ((26 : Nat) : Int) := (hW.2 1 _ hW.1.1).2.2 10 (by decide) |> fun z => by have z1 : (26 : Int) ≤ H 1 10 ∧ H 1 10 ≤ 26 := z; exact Int.le_antisymm z1.2 z1.1
          refine wp_of e18 c18_18 (rw_aaload (pc' := 19) (n := 11) (b := 26) (hW.sh hW.1.1 rfl) (by decide) (by decide) (by decide) rfl k7818 rfl ?_)
          have k7819 : H 26 0 = ((42 : Nat) : Int) := (hW.2 26 _ (hW.1.2.2 10 (by decide))).2.2 0 (by decide) |> fun z => by have z1 : (42 : Int) ≤ H 26 0 ∧ H 26 0 ≤ 42 := z; omega
          refine wp_of e18 c18_19 (rw_getR (pc' := 22) (n := 2) (b := 42) (e := _) (lf_1_181).choose_spec.1 (lf_1_181).choose_spec.2.1 (hW.sh (hW.1.2.2 10 (by decide)) rfl) (by decide) rfl k7819 rfl ?_)
          refine wp_of e18 c18_22 (xc_V (pc' := 25) (r := r7662) (as := [.ref 42]) (st := []) (lm_1_185) rfl rfl (Nat.le_of_ble_eq_true rfl) hW g7664 sh_4 (by decide) rfl (by decide) (s_19 hW g7664 rfl) (fun R7820 T7821 H7822 p7823 => ?_))
          obtain ⟨e7824, e7826, z7827, e7825, b7828⟩ := p7823
          subst e7824
          subst e7825
          subst e7826
          show wp _ _ 18 25 [(1, vI 10), (0, .ref r0)] [vI z7827] _ H _
          refine wp_of e18 c18_25 (rw_if_eq (p1 := 34) (p2 := 28) (by decide) rfl ⟨by omega, by omega⟩ (fun c7829 => ?_) (fun c7829 => ?_))
          · refine wp_of e18 c18_34 (rw_iinc (pc' := 37) (z := 10) (L' := [(1, vI (10 + 1)), (0, .ref r0)]) rfl rfl rfl rfl ?_)
            refine wp_of e18 c18_37 (rw_goto (p1 := 2) (by decide) ?_)
            exact wp_lc (ks := [1, 0]) (wl_c rfl (wl_c rfl wl_n)) rfl (by decide) (ih7655 _ (by omega) (10 + 1) ⟨by omega, by omega⟩ rfl)
          · refine wp_of e18 c18_28 (rw_gs (pc' := 31) (k := 1) rfl rfl rfl rfl ?_)
            refine wp_of e18 c18_31 (rw_iload_n (pc' := 32) (z := 10) rfl rfl ?_)
            have k7831 : H 1 (10 : Int).toNat = ((26 : Nat) : Int) := (hW.2 1 _ hW.1.1).2.2 10 (by decide) |> fun z => by have z1 : (26 : Int) ≤ H 1 10 ∧ H 1 10 ≤ 26 := z; exact Int.le_antisymm z1.2 z1.1
            refine wp_of e18 c18_32 (rw_aaload (pc' := 33) (n := 11) (b := 26) (hW.sh hW.1.1 rfl) (by decide) (by decide) (by decide) rfl k7831 rfl ?_)
            exact wp_areturn e18 c18_33 rfl rfl ⟨rfl, rfl, Or.inr ⟨26, rfl, by decide, by decide⟩⟩
  exact wp_lc (ks := [1, 0]) (wl_c rfl (wl_c rfl wl_n)) rfl (by decide) (lp7653 _ 0 ⟨by omega, by omega⟩ rfl)
/-! StrikeAwake$Reader.fail(I)Z -/
theorem e20 : wq_en 20 = some (1, 2, false, some FieldType.boolean) := rfl
theorem c20_0 : mc_cd 20 0 = some (.aload_n 0, 1) := by decide +kernel
theorem c20_1 : mc_cd 20 1 = some (.iload_n 1, 1) := by decide +kernel
theorem c20_2 : mc_cd 20 2 = some (.putfield 18, 3) := by decide +kernel
theorem c20_5 : mc_cd 20 5 = some (.aload_n 0, 1) := by decide +kernel
theorem c20_6 : mc_cd 20 6 = some (.aload_n 0, 1) := by decide +kernel
theorem c20_7 : mc_cd 20 7 = some (.getfield 12, 3) := by decide +kernel
theorem c20_10 : mc_cd 20 10 = some (.getfield 257, 3) := by decide +kernel
theorem c20_13 : mc_cd 20 13 = some (.putfield 22, 3) := by decide +kernel
theorem c20_16 : mc_cd 20 16 = some (.iconst 0, 1) := by decide +kernel
theorem c20_17 : mc_cd 20 17 = some (.ireturn, 1) := by decide +kernel
abbrev q_20 (r0 : Nat) (a1 : Int) (T : wq_T) (H : wq_H) : Option Value → wq_T → wq_H → Prop := fun r T' H' => T = T' ∧ WT T H' ∧ wfr [(3, 3), (3, 4)] T H H' ∧ ∃ z : Int, some (vI z) = r ∧ (0 ≤ z ∧ z ≤ 1)
set_option maxHeartbeats 4000000 in
theorem s_20 {kt : Nat → Option mc_E} {T : wq_T} {H : wq_H} {r0 : Nat} {a1 : Int} (hW : WT T H) (g0 : T.2.2.2 r0 = some 3) (i1 : (-2147483648) ≤ a1 ∧ a1 ≤ 2147483647) : wpc kt 1 20 [.ref r0, vI a1] T H (q_20 r0 a1 T H) := by
  refine wp_enter e20 (Nat.le_of_ble_eq_true rfl) rfl ?_
  have f0 : wfr [(3, 3), (3, 4)] T H H := wfr.rf
  show wp _ _ 20 0 [(0, .ref r0), (1, vI a1)] [] _ H _
  refine wp_of e20 c20_0 (rw_aload_n (pc' := 1) (v := .ref r0) rfl rfl rfl ?_)
  refine wp_of e20 c20_1 (rw_iload_n (pc' := 2) (z := a1) rfl rfl ?_)
  refine wp_of e20 c20_2 (xp_I (pc' := 5) lf_1_18 hW g0 sh_3 (by decide) (by decide) ty_3_3 rfl rfl (by omega) (by omega) ⟨by omega, by omega⟩ rfl (fun H7847 e7848 w7849 => ?_))
  have f7850 := f0.put' e7848 g0 rfl
  have k7851 : H7847 r0 3 = a1 := wq_u_s e7848
  refine wp_of e20 c20_5 (rw_aload_n (pc' := 6) (v := .ref r0) rfl rfl rfl ?_)
  refine wp_of e20 c20_6 (rw_aload_n (pc' := 7) (v := .ref r0) rfl rfl rfl ?_)
  refine wp_of e20 c20_7 (xg_R (pc' := 10) lf_1_12 w7849 g0 sh_3 (by decide) (by decide) ty_3_0 rfl rfl (fun r7852 q7853 g7854 => ?_))
  refine wp_of e20 c20_10 (xg_I (pc' := 13) lf_1_257 w7849 g7854 sh_4 (by decide) (by decide) ty_4_4 rfl rfl (fun b7855 b7856 => ?_))
  refine wp_of e20 c20_13 (xp_I (pc' := 16) lf_1_22 w7849 g0 sh_3 (by decide) (by decide) ty_3_4 rfl rfl (by omega) (by omega) ⟨by omega, by omega⟩ rfl (fun H7857 e7858 w7859 => ?_))
  have f7860 := f7850.put' e7858 g0 rfl
  have k7861 : H7857 r0 4 = H7847 r7852 4 := wq_u_s e7858
  refine wp_of e20 c20_16 (rw_iconst (pc' := 17) rfl ?_)
  exact wp_zreturn e20 c20_17 rfl (by omega) ⟨rfl, w7859, f7860, 0, rfl, ⟨by omega, by omega⟩⟩
/-! StrikeAwake$Parish.linesOf(LStrikeAwake$Reserved;)I -/
theorem e21 : wq_en 21 = some (7, 2, false, some FieldType.int) := rfl
theorem c21_0 : mc_cd 21 0 = some (.getstatic 75, 3) := by decide +kernel
theorem c21_3 : mc_cd 21 3 = some (.aload_n 1, 1) := by decide +kernel
theorem c21_4 : mc_cd 21 4 = some (.invokevirtual 80, 3) := by decide +kernel
theorem c21_7 : mc_cd 21 7 = some (.iaload, 1) := by decide +kernel
theorem c21_8 : mc_cd 21 8 = some (.tableswitch 104 1 8 #[48, 61, 66, 79, 84, 89, 94, 99], 48) := by decide +kernel
theorem c21_56 : mc_cd 21 56 = some (.aload_n 0, 1) := by decide +kernel
theorem c21_57 : mc_cd 21 57 = some (.getfield 41, 3) := by decide +kernel
theorem c21_60 : mc_cd 21 60 = some (.ifCond .le 7, 3) := by decide +kernel
theorem c21_63 : mc_cd 21 63 = some (.iconst 1, 1) := by decide +kernel
theorem c21_64 : mc_cd 21 64 = some (.goto 4, 3) := by decide +kernel
theorem c21_67 : mc_cd 21 67 = some (.iconst 0, 1) := by decide +kernel
theorem c21_68 : mc_cd 21 68 = some (.ireturn, 1) := by decide +kernel
theorem c21_69 : mc_cd 21 69 = some (.aload_n 0, 1) := by decide +kernel
theorem c21_70 : mc_cd 21 70 = some (.getfield 50, 3) := by decide +kernel
theorem c21_73 : mc_cd 21 73 = some (.ireturn, 1) := by decide +kernel
theorem c21_74 : mc_cd 21 74 = some (.aload_n 0, 1) := by decide +kernel
theorem c21_75 : mc_cd 21 75 = some (.getfield 37, 3) := by decide +kernel
theorem c21_78 : mc_cd 21 78 = some (.ifCond .lt 7, 3) := by decide +kernel
theorem c21_81 : mc_cd 21 81 = some (.iconst 1, 1) := by decide +kernel
theorem c21_82 : mc_cd 21 82 = some (.goto 4, 3) := by decide +kernel
theorem c21_85 : mc_cd 21 85 = some (.iconst 0, 1) := by decide +kernel
theorem c21_86 : mc_cd 21 86 = some (.ireturn, 1) := by decide +kernel
theorem c21_87 : mc_cd 21 87 = some (.aload_n 0, 1) := by decide +kernel
theorem c21_88 : mc_cd 21 88 = some (.getfield 53, 3) := by decide +kernel
theorem c21_91 : mc_cd 21 91 = some (.ireturn, 1) := by decide +kernel
theorem c21_92 : mc_cd 21 92 = some (.aload_n 0, 1) := by decide +kernel
theorem c21_93 : mc_cd 21 93 = some (.getfield 56, 3) := by decide +kernel
theorem c21_96 : mc_cd 21 96 = some (.ireturn, 1) := by decide +kernel
theorem c21_97 : mc_cd 21 97 = some (.aload_n 0, 1) := by decide +kernel
theorem c21_98 : mc_cd 21 98 = some (.getfield 65, 3) := by decide +kernel
theorem c21_101 : mc_cd 21 101 = some (.ireturn, 1) := by decide +kernel
theorem c21_102 : mc_cd 21 102 = some (.aload_n 0, 1) := by decide +kernel
theorem c21_103 : mc_cd 21 103 = some (.getfield 59, 3) := by decide +kernel
theorem c21_106 : mc_cd 21 106 = some (.ireturn, 1) := by decide +kernel
theorem c21_107 : mc_cd 21 107 = some (.aload_n 0, 1) := by decide +kernel
theorem c21_108 : mc_cd 21 108 = some (.getfield 62, 3) := by decide +kernel
theorem c21_111 : mc_cd 21 111 = some (.ireturn, 1) := by decide +kernel
theorem c21_112 : mc_cd 21 112 = some (.iconst 0, 1) := by decide +kernel
theorem c21_113 : mc_cd 21 113 = some (.ireturn, 1) := by decide +kernel
abbrev q_21_16 (r0 : Nat) (T : wq_T) (H : wq_H) : Option Value → wq_T → wq_H → Prop := fun r T' H' => T = T' ∧ H = H' ∧ ∃ z : Int, some (vI z) = r ∧ ((-2147483648) ≤ z ∧ z ≤ 2147483647) ∧ (0 ≤ z ∧ z ≤ 1)
set_option maxHeartbeats 4000000 in
theorem s_21_16 {kt : Nat → Option mc_E} {T : wq_T} {H : wq_H} {r0 : Nat} (hW : WT T H) (g0 : T.2.2.2 r0 = some 27) : wpc kt 1 21 [.ref r0, .ref 16] T H (q_21_16 r0 T H) := by
  refine wp_enter e21 (Nat.le_of_ble_eq_true rfl) rfl ?_
  show wp _ _ 21 0 [(0, .ref r0), (1, .ref 16)] [] _ H _
  refine wp_of e21 c21_0 (rw_gs (pc' := 3) (k := 2) rfl rfl rfl rfl ?_)
  refine wp_of e21 c21_3 (rw_aload_n (pc' := 4) (v := .ref 16) rfl rfl rfl ?_)
  refine wp_of e21 c21_4 (rw_ord (pc' := 7) rfl rfl rfl (by decide) (Nat.le_of_ble_eq_true rfl) rfl ?_)
  show wp _ _ 21 7 [(0, .ref r0), (1, .ref 16)] [vI 0, .ref 2] _ H _
  have k7867 : H 2 (0 : Int).toNat = 1 := (hW.2 2 _ hW.1.2.1).2.2 0 (by decide) |> fun z => by have z1 : (1 : Int) ≤ H 2 0 ∧ H 2 0 ≤ 1 := z; exact Int.le_antisymm z1.2 z1.1
  refine wp_of e21 c21_7 (rw_iaload (pc' := 8) (n := 11) (hW.sh hW.1.2.1 rfl) (by decide) (by decide) (by decide) rfl rfl ?_)
  rw [k7867]
  refine wp_of e21 c21_8 (rw_tsw (p1 := 56) ⟨by omega, by omega⟩ (by decide) ?_)
  refine wp_of e21 c21_56 (rw_aload_n (pc' := 57) (v := .ref r0) rfl rfl rfl ?_)
  refine wp_of e21 c21_57 (xg_I (pc' := 60) lf_7_41 hW g0 sh_27 (by decide) (by decide) ty_27_7 rfl rfl (fun b7869 b7870 => ?_))
  refine wp_of e21 c21_60 (rw_if_le (p1 := 67) (p2 := 63) (by decide) rfl ⟨by omega, by omega⟩ (fun c7871 => ?_) (fun c7871 => ?_))
  · refine wp_of e21 c21_67 (rw_iconst (pc' := 68) rfl ?_)
    exact wp_ireturn e21 c21_68 rfl ⟨rfl, rfl, 0, rfl, ⟨by omega, by omega⟩, by omega⟩
  · refine wp_of e21 c21_63 (rw_iconst (pc' := 64) rfl ?_)
    refine wp_of e21 c21_64 (rw_goto (p1 := 68) (by decide) ?_)
    exact wp_ireturn e21 c21_68 rfl ⟨rfl, rfl, 1, rfl, ⟨by omega, by omega⟩, by omega⟩

/-! StrikeAwake$Parish.linesOf(LStrikeAwake$Reserved;)I -/
abbrev q_21_17 (r0 : Nat) (T : wq_T) (H : wq_H) : Option Value → wq_T → wq_H → Prop := fun r T' H' => T = T' ∧ H = H' ∧ ∃ z : Int, some (vI z) = r ∧ ((-2147483648) ≤ z ∧ z ≤ 2147483647) ∧ (z = H r0 10)
set_option maxHeartbeats 4000000 in
theorem s_21_17 {kt : Nat → Option mc_E} {T : wq_T} {H : wq_H} {r0 : Nat} (hW : WT T H) (g0 : T.2.2.2 r0 = some 27) : wpc kt 1 21 [.ref r0, .ref 17] T H (q_21_17 r0 T H) := by
  refine wp_enter e21 (Nat.le_of_ble_eq_true rfl) rfl ?_
  show wp _ _ 21 0 [(0, .ref r0), (1, .ref 17)] [] _ H _
  refine wp_of e21 c21_0 (rw_gs (pc' := 3) (k := 2) rfl rfl rfl rfl ?_)
  refine wp_of e21 c21_3 (rw_aload_n (pc' := 4) (v := .ref 17) rfl rfl rfl ?_)
  refine wp_of e21 c21_4 (rw_ord (pc' := 7) rfl rfl rfl (by decide) (Nat.le_of_ble_eq_true rfl) rfl ?_)
  show wp _ _ 21 7 [(0, .ref r0), (1, .ref 17)] [vI 1, .ref 2] _ H _
  have k7876 : H 2 (1 : Int).toNat = 2 := (hW.2 2 _ hW.1.2.1).2.2 1 (by decide) |> fun z => by have z1 : (2 : Int) ≤ H 2 1 ∧ H 2 1 ≤ 2 := z; exact Int.le_antisymm z1.2 z1.1
  refine wp_of e21 c21_7 (rw_iaload (pc' := 8) (n := 11) (hW.sh hW.1.2.1 rfl) (by decide) (by decide) (by decide) rfl rfl ?_)
  rw [k7876]
  refine wp_of e21 c21_8 (rw_tsw (p1 := 69) ⟨by omega, by omega⟩ (by decide) ?_)
  refine wp_of e21 c21_69 (rw_aload_n (pc' := 70) (v := .ref r0) rfl rfl rfl ?_)
  refine wp_of e21 c21_70 (xg_I (pc' := 73) lf_7_50 hW g0 sh_27 (by decide) (by decide) ty_27_10 rfl rfl (fun b7878 b7879 => ?_))
  exact wp_ireturn e21 c21_73 rfl ⟨rfl, rfl, H r0 10, rfl, ⟨by omega, by omega⟩, by omega⟩

/-! StrikeAwake$Parish.linesOf(LStrikeAwake$Reserved;)I -/
abbrev q_21_18 (r0 : Nat) (T : wq_T) (H : wq_H) : Option Value → wq_T → wq_H → Prop := fun r T' H' => T = T' ∧ H = H' ∧ ∃ z : Int, some (vI z) = r ∧ ((-2147483648) ≤ z ∧ z ≤ 2147483647) ∧ (0 ≤ z ∧ z ≤ 1)
set_option maxHeartbeats 4000000 in
theorem s_21_18 {kt : Nat → Option mc_E} {T : wq_T} {H : wq_H} {r0 : Nat} (hW : WT T H) (g0 : T.2.2.2 r0 = some 27) : wpc kt 1 21 [.ref r0, .ref 18] T H (q_21_18 r0 T H) := by
  refine wp_enter e21 (Nat.le_of_ble_eq_true rfl) rfl ?_
  show wp _ _ 21 0 [(0, .ref r0), (1, .ref 18)] [] _ H _
  refine wp_of e21 c21_0 (rw_gs (pc' := 3) (k := 2) rfl rfl rfl rfl ?_)
  refine wp_of e21 c21_3 (rw_aload_n (pc' := 4) (v := .ref 18) rfl rfl rfl ?_)
  refine wp_of e21 c21_4 (rw_ord (pc' := 7) rfl rfl rfl (by decide) (Nat.le_of_ble_eq_true rfl) rfl ?_)
  show wp _ _ 21 7 [(0, .ref r0), (1, .ref 18)] [vI 2, .ref 2] _ H _
  have k7885 : H 2 (2 : Int).toNat = 3 := (hW.2 2 _ hW.1.2.1).2.2 2 (by decide) |> fun z => by have z1 : (3 : Int) ≤ H 2 2 ∧ H 2 2 ≤ 3 := z; exact Int.le_antisymm z1.2 z1.1
  refine wp_of e21 c21_7 (rw_iaload (pc' := 8) (n := 11) (hW.sh hW.1.2.1 rfl) (by decide) (by decide) (by decide) rfl rfl ?_)
  rw [k7885]
  refine wp_of e21 c21_8 (rw_tsw (p1 := 74) ⟨by omega, by omega⟩ (by decide) ?_)
  refine wp_of e21 c21_74 (rw_aload_n (pc' := 75) (v := .ref r0) rfl rfl rfl ?_)
  refine wp_of e21 c21_75 (xg_I (pc' := 78) lf_7_37 hW g0 sh_27 (by decide) (by decide) ty_27_15 rfl rfl (fun b7887 b7888 => ?_))
  refine wp_of e21 c21_78 (rw_if_lt (p1 := 85) (p2 := 81) (by decide) rfl ⟨by omega, by omega⟩ (fun c7889 => ?_) (fun c7889 => ?_))
  · refine wp_of e21 c21_85 (rw_iconst (pc' := 86) rfl ?_)
    exact wp_ireturn e21 c21_86 rfl ⟨rfl, rfl, 0, rfl, ⟨by omega, by omega⟩, by omega⟩
  · refine wp_of e21 c21_81 (rw_iconst (pc' := 82) rfl ?_)
    refine wp_of e21 c21_82 (rw_goto (p1 := 86) (by decide) ?_)
    exact wp_ireturn e21 c21_86 rfl ⟨rfl, rfl, 1, rfl, ⟨by omega, by omega⟩, by omega⟩

/-! StrikeAwake$Parish.linesOf(LStrikeAwake$Reserved;)I -/
abbrev q_21_19 (r0 : Nat) (T : wq_T) (H : wq_H) : Option Value → wq_T → wq_H → Prop := fun r T' H' => T = T' ∧ H = H' ∧ ∃ z : Int, some (vI z) = r ∧ ((-2147483648) ≤ z ∧ z ≤ 2147483647)
set_option maxHeartbeats 4000000 in
theorem s_21_19 {kt : Nat → Option mc_E} {T : wq_T} {H : wq_H} {r0 : Nat} (hW : WT T H) (g0 : T.2.2.2 r0 = some 27) : wpc kt 1 21 [.ref r0, .ref 19] T H (q_21_19 r0 T H) := by
  refine wp_enter e21 (Nat.le_of_ble_eq_true rfl) rfl ?_
  show wp _ _ 21 0 [(0, .ref r0), (1, .ref 19)] [] _ H _
  refine wp_of e21 c21_0 (rw_gs (pc' := 3) (k := 2) rfl rfl rfl rfl ?_)
  refine wp_of e21 c21_3 (rw_aload_n (pc' := 4) (v := .ref 19) rfl rfl rfl ?_)
  refine wp_of e21 c21_4 (rw_ord (pc' := 7) rfl rfl rfl (by decide) (Nat.le_of_ble_eq_true rfl) rfl ?_)
  show wp _ _ 21 7 [(0, .ref r0), (1, .ref 19)] [vI 3, .ref 2] _ H _
  have k7894 : H 2 (3 : Int).toNat = 4 := (hW.2 2 _ hW.1.2.1).2.2 3 (by decide) |> fun z => by have z1 : (4 : Int) ≤ H 2 3 ∧ H 2 3 ≤ 4 := z; exact Int.le_antisymm z1.2 z1.1
  refine wp_of e21 c21_7 (rw_iaload (pc' := 8) (n := 11) (hW.sh hW.1.2.1 rfl) (by decide) (by decide) (by decide) rfl rfl ?_)
  rw [k7894]
  refine wp_of e21 c21_8 (rw_tsw (p1 := 87) ⟨by omega, by omega⟩ (by decide) ?_)
  refine wp_of e21 c21_87 (rw_aload_n (pc' := 88) (v := .ref r0) rfl rfl rfl ?_)
  refine wp_of e21 c21_88 (xg_I (pc' := 91) lf_7_53 hW g0 sh_27 (by decide) (by decide) ty_27_11 rfl rfl (fun b7896 b7897 => ?_))
  exact wp_ireturn e21 c21_91 rfl ⟨rfl, rfl, H r0 11, rfl, ⟨by omega, by omega⟩⟩

/-! StrikeAwake$Parish.linesOf(LStrikeAwake$Reserved;)I -/
abbrev q_21_20 (r0 : Nat) (T : wq_T) (H : wq_H) : Option Value → wq_T → wq_H → Prop := fun r T' H' => T = T' ∧ H = H' ∧ ∃ z : Int, some (vI z) = r ∧ ((-2147483648) ≤ z ∧ z ≤ 2147483647) ∧ (z = H r0 12)
set_option maxHeartbeats 4000000 in
theorem s_21_20 {kt : Nat → Option mc_E} {T : wq_T} {H : wq_H} {r0 : Nat} (hW : WT T H) (g0 : T.2.2.2 r0 = some 27) : wpc kt 1 21 [.ref r0, .ref 20] T H (q_21_20 r0 T H) := by
  refine wp_enter e21 (Nat.le_of_ble_eq_true rfl) rfl ?_
  show wp _ _ 21 0 [(0, .ref r0), (1, .ref 20)] [] _ H _
  refine wp_of e21 c21_0 (rw_gs (pc' := 3) (k := 2) rfl rfl rfl rfl ?_)
  refine wp_of e21 c21_3 (rw_aload_n (pc' := 4) (v := .ref 20) rfl rfl rfl ?_)
  refine wp_of e21 c21_4 (rw_ord (pc' := 7) rfl rfl rfl (by decide) (Nat.le_of_ble_eq_true rfl) rfl ?_)
  show wp _ _ 21 7 [(0, .ref r0), (1, .ref 20)] [vI 4, .ref 2] _ H _
  have k7902 : H 2 (4 : Int).toNat = 5 := (hW.2 2 _ hW.1.2.1).2.2 4 (by decide) |> fun z => by have z1 : (5 : Int) ≤ H 2 4 ∧ H 2 4 ≤ 5 := z; exact Int.le_antisymm z1.2 z1.1
  refine wp_of e21 c21_7 (rw_iaload (pc' := 8) (n := 11) (hW.sh hW.1.2.1 rfl) (by decide) (by decide) (by decide) rfl rfl ?_)
  rw [k7902]
  refine wp_of e21 c21_8 (rw_tsw (p1 := 92) ⟨by omega, by omega⟩ (by decide) ?_)
  refine wp_of e21 c21_92 (rw_aload_n (pc' := 93) (v := .ref r0) rfl rfl rfl ?_)
  refine wp_of e21 c21_93 (xg_I (pc' := 96) lf_7_56 hW g0 sh_27 (by decide) (by decide) ty_27_12 rfl rfl (fun b7904 b7905 => ?_))
  exact wp_ireturn e21 c21_96 rfl ⟨rfl, rfl, H r0 12, rfl, ⟨by omega, by omega⟩, by omega⟩

/-! StrikeAwake$Parish.linesOf(LStrikeAwake$Reserved;)I -/
abbrev q_21_21 (r0 : Nat) (T : wq_T) (H : wq_H) : Option Value → wq_T → wq_H → Prop := fun r T' H' => T = T' ∧ H = H' ∧ ∃ z : Int, some (vI z) = r ∧ ((-2147483648) ≤ z ∧ z ≤ 2147483647)
set_option maxHeartbeats 4000000 in
theorem s_21_21 {kt : Nat → Option mc_E} {T : wq_T} {H : wq_H} {r0 : Nat} (hW : WT T H) (g0 : T.2.2.2 r0 = some 27) : wpc kt 1 21 [.ref r0, .ref 21] T H (q_21_21 r0 T H) := by
  refine wp_enter e21 (Nat.le_of_ble_eq_true rfl) rfl ?_
  show wp _ _ 21 0 [(0, .ref r0), (1, .ref 21)] [] _ H _
  refine wp_of e21 c21_0 (rw_gs (pc' := 3) (k := 2) rfl rfl rfl rfl ?_)
  refine wp_of e21 c21_3 (rw_aload_n (pc' := 4) (v := .ref 21) rfl rfl rfl ?_)
  refine wp_of e21 c21_4 (rw_ord (pc' := 7) rfl rfl rfl (by decide) (Nat.le_of_ble_eq_true rfl) rfl ?_)
  show wp _ _ 21 7 [(0, .ref r0), (1, .ref 21)] [vI 5, .ref 2] _ H _
  have k7910 : H 2 (5 : Int).toNat = 6 := (hW.2 2 _ hW.1.2.1).2.2 5 (by decide) |> fun z => by have z1 : (6 : Int) ≤ H 2 5 ∧ H 2 5 ≤ 6 := z; exact Int.le_antisymm z1.2 z1.1
  refine wp_of e21 c21_7 (rw_iaload (pc' := 8) (n := 11) (hW.sh hW.1.2.1 rfl) (by decide) (by decide) (by decide) rfl rfl ?_)
  rw [k7910]
  refine wp_of e21 c21_8 (rw_tsw (p1 := 97) ⟨by omega, by omega⟩ (by decide) ?_)
  refine wp_of e21 c21_97 (rw_aload_n (pc' := 98) (v := .ref r0) rfl rfl rfl ?_)
  refine wp_of e21 c21_98 (xg_I (pc' := 101) lf_7_65 hW g0 sh_27 (by decide) (by decide) ty_27_16 rfl rfl (fun b7912 b7913 => ?_))
  exact wp_ireturn e21 c21_101 rfl ⟨rfl, rfl, H r0 16, rfl, ⟨by omega, by omega⟩⟩

/-! StrikeAwake$Parish.linesOf(LStrikeAwake$Reserved;)I -/
abbrev q_21_22 (r0 : Nat) (T : wq_T) (H : wq_H) : Option Value → wq_T → wq_H → Prop := fun r T' H' => T = T' ∧ H = H' ∧ ∃ z : Int, some (vI z) = r ∧ ((-2147483648) ≤ z ∧ z ≤ 2147483647) ∧ (z = H r0 13)
set_option maxHeartbeats 4000000 in
theorem s_21_22 {kt : Nat → Option mc_E} {T : wq_T} {H : wq_H} {r0 : Nat} (hW : WT T H) (g0 : T.2.2.2 r0 = some 27) : wpc kt 1 21 [.ref r0, .ref 22] T H (q_21_22 r0 T H) := by
  refine wp_enter e21 (Nat.le_of_ble_eq_true rfl) rfl ?_
  show wp _ _ 21 0 [(0, .ref r0), (1, .ref 22)] [] _ H _
  refine wp_of e21 c21_0 (rw_gs (pc' := 3) (k := 2) rfl rfl rfl rfl ?_)
  refine wp_of e21 c21_3 (rw_aload_n (pc' := 4) (v := .ref 22) rfl rfl rfl ?_)
  refine wp_of e21 c21_4 (rw_ord (pc' := 7) rfl rfl rfl (by decide) (Nat.le_of_ble_eq_true rfl) rfl ?_)
  show wp _ _ 21 7 [(0, .ref r0), (1, .ref 22)] [vI 6, .ref 2] _ H _
  have k7918 : H 2 (6 : Int).toNat = 7 := (hW.2 2 _ hW.1.2.1).2.2 6 (by decide) |> fun z => by have z1 : (7 : Int) ≤ H 2 6 ∧ H 2 6 ≤ 7 := z; exact Int.le_antisymm z1.2 z1.1
  refine wp_of e21 c21_7 (rw_iaload (pc' := 8) (n := 11) (hW.sh hW.1.2.1 rfl) (by decide) (by decide) (by decide) rfl rfl ?_)
  rw [k7918]
  refine wp_of e21 c21_8 (rw_tsw (p1 := 102) ⟨by omega, by omega⟩ (by decide) ?_)
  refine wp_of e21 c21_102 (rw_aload_n (pc' := 103) (v := .ref r0) rfl rfl rfl ?_)
  refine wp_of e21 c21_103 (xg_I (pc' := 106) lf_7_59 hW g0 sh_27 (by decide) (by decide) ty_27_13 rfl rfl (fun b7920 b7921 => ?_))
  exact wp_ireturn e21 c21_106 rfl ⟨rfl, rfl, H r0 13, rfl, ⟨by omega, by omega⟩, by omega⟩

/-! StrikeAwake$Parish.linesOf(LStrikeAwake$Reserved;)I -/
abbrev q_21_23 (r0 : Nat) (T : wq_T) (H : wq_H) : Option Value → wq_T → wq_H → Prop := fun r T' H' => T = T' ∧ H = H' ∧ ∃ z : Int, some (vI z) = r ∧ ((-2147483648) ≤ z ∧ z ≤ 2147483647) ∧ (z = H r0 14)
set_option maxHeartbeats 4000000 in
theorem s_21_23 {kt : Nat → Option mc_E} {T : wq_T} {H : wq_H} {r0 : Nat} (hW : WT T H) (g0 : T.2.2.2 r0 = some 27) : wpc kt 1 21 [.ref r0, .ref 23] T H (q_21_23 r0 T H) := by
  refine wp_enter e21 (Nat.le_of_ble_eq_true rfl) rfl ?_
  show wp _ _ 21 0 [(0, .ref r0), (1, .ref 23)] [] _ H _
  refine wp_of e21 c21_0 (rw_gs (pc' := 3) (k := 2) rfl rfl rfl rfl ?_)
  refine wp_of e21 c21_3 (rw_aload_n (pc' := 4) (v := .ref 23) rfl rfl rfl ?_)
  refine wp_of e21 c21_4 (rw_ord (pc' := 7) rfl rfl rfl (by decide) (Nat.le_of_ble_eq_true rfl) rfl ?_)
  show wp _ _ 21 7 [(0, .ref r0), (1, .ref 23)] [vI 7, .ref 2] _ H _
  have k7926 : H 2 (7 : Int).toNat = 8 := (hW.2 2 _ hW.1.2.1).2.2 7 (by decide) |> fun z => by have z1 : (8 : Int) ≤ H 2 7 ∧ H 2 7 ≤ 8 := z; exact Int.le_antisymm z1.2 z1.1
  refine wp_of e21 c21_7 (rw_iaload (pc' := 8) (n := 11) (hW.sh hW.1.2.1 rfl) (by decide) (by decide) (by decide) rfl rfl ?_)
  rw [k7926]
  refine wp_of e21 c21_8 (rw_tsw (p1 := 107) ⟨by omega, by omega⟩ (by decide) ?_)
  refine wp_of e21 c21_107 (rw_aload_n (pc' := 108) (v := .ref r0) rfl rfl rfl ?_)
  refine wp_of e21 c21_108 (xg_I (pc' := 111) lf_7_62 hW g0 sh_27 (by decide) (by decide) ty_27_14 rfl rfl (fun b7928 b7929 => ?_))
  exact wp_ireturn e21 c21_111 rfl ⟨rfl, rfl, H r0 14, rfl, ⟨by omega, by omega⟩, by omega⟩
/-! StrikeAwake$Reader.takesWord(Ljava/lang/String;)Z -/
theorem e23 : wq_en 23 = some (1, 2, false, some FieldType.boolean) := rfl
theorem c23_0 : mc_cd 23 0 = some (.aload_n 0, 1) := by decide +kernel
theorem c23_1 : mc_cd 23 1 = some (.getfield 12, 3) := by decide +kernel
theorem c23_4 : mc_cd 23 4 = some (.aload_n 1, 1) := by decide +kernel
theorem c23_5 : mc_cd 23 5 = some (.invokevirtual 185, 3) := by decide +kernel
theorem c23_8 : mc_cd 23 8 = some (.ifCond .ne 9, 3) := by decide +kernel
theorem c23_11 : mc_cd 23 11 = some (.aload_n 0, 1) := by decide +kernel
theorem c23_12 : mc_cd 23 12 = some (.iconst 1, 1) := by decide +kernel
theorem c23_13 : mc_cd 23 13 = some (.invokevirtual 47, 3) := by decide +kernel
theorem c23_16 : mc_cd 23 16 = some (.ireturn, 1) := by decide +kernel
theorem c23_17 : mc_cd 23 17 = some (.aload_n 0, 1) := by decide +kernel
theorem c23_18 : mc_cd 23 18 = some (.getfield 12, 3) := by decide +kernel
theorem c23_21 : mc_cd 23 21 = some (.invokevirtual 74, 3) := by decide +kernel
theorem c23_24 : mc_cd 23 24 = some (.iconst 1, 1) := by decide +kernel
theorem c23_25 : mc_cd 23 25 = some (.ireturn, 1) := by decide +kernel
abbrev q_23 (r0 : Nat) (s1 : Nat) (tk : Nat) (rb : Nat) (T : wq_T) (H : wq_H) : Option Value → wq_T → wq_H → Prop := fun r T' H' => T = T' ∧ WT T H' ∧ wfr [(3, 3), (3, 4), (4, 2), (4, 3), (4, 4), (4, 5), (4, 6)] T H H' ∧ ∃ z : Int, some (vI z) = r ∧ (0 ≤ z ∧ z ≤ 1)
set_option maxHeartbeats 4000000 in
theorem s_23 {kt : Nat → Option mc_E} {T : wq_T} {H : wq_H} {r0 : Nat} {s1 : Nat} {t1 : List Int32} {tk : Nat} {rb : Nat} (hW : WT T H) (g0 : T.2.2.2 r0 = some 3) (h1 : mc_find mc_sb s1 = some t1) (qtk : H r0 0 = (tk : Int)) (gtk : T.2.2.2 tk = some 4) (qrb : H tk 0 = (rb : Int)) (grb : T.2.2.2 rb = some 2) : wpc kt 2 23 [.ref r0, .ref s1] T H (q_23 r0 s1 tk rb T H) := by
  refine wp_enter e23 (Nat.le_of_ble_eq_true rfl) rfl ?_
  have f0 : wfr [(3, 3), (3, 4), (4, 2), (4, 3), (4, 4), (4, 5), (4, 6)] T H H := wfr.rf
  show wp _ _ 23 0 [(0, .ref r0), (1, .ref s1)] [] _ H _
  refine wp_of e23 c23_0 (rw_aload_n (pc' := 1) (v := .ref r0) rfl rfl rfl ?_)
  refine wp_of e23 c23_1 (xg_K (pc' := 4) lf_1_12 hW g0 sh_3 (by decide) (by decide) rfl qtk rfl ?_)
  refine wp_of e23 c23_4 (rw_aload_n (pc' := 5) (v := .ref s1) rfl rfl rfl ?_)
  refine wp_of e23 c23_5 (xc_V (pc' := 8) (r := tk) (as := [.ref s1]) (st := []) (lm_1_185) rfl rfl (Nat.le_of_ble_eq_true rfl) hW gtk sh_4 (by decide) rfl (by decide) (s_19 hW gtk h1) (fun R7960 T7961 H7962 p7963 => ?_))
  obtain ⟨e7964, e7966, z7967, e7965, b7968⟩ := p7963
  subst e7964
  subst e7965
  subst e7966
  show wp _ _ 23 8 [(0, .ref r0), (1, .ref s1)] [vI z7967] _ H _
  refine wp_of e23 c23_8 (rw_if_ne (p1 := 17) (p2 := 11) (by decide) rfl ⟨by omega, by omega⟩ (fun c7969 => ?_) (fun c7969 => ?_))
  · refine wp_of e23 c23_17 (rw_aload_n (pc' := 18) (v := .ref r0) rfl rfl rfl ?_)
    refine wp_of e23 c23_18 (xg_K (pc' := 21) lf_1_12 hW g0 sh_3 (by decide) (by decide) rfl qtk rfl ?_)
    refine wp_of e23 c23_21 (xc_V (pc' := 24) (r := tk) (as := []) (st := []) (lm_1_74) rfl rfl (Nat.le_of_ble_eq_true rfl) hW gtk sh_4 (by decide) rfl (by decide) (s_16 hW gtk qrb grb) (fun R7970 T7971 H7972 p7973 => ?_))
    obtain ⟨e7974, w7976, f7977, e7975⟩ := p7973
    subst e7974
    subst e7975
    have f7978 := f0.tr f7977 rfl
    show wp _ _ 23 24 [(0, .ref r0), (1, .ref s1)] [] _ H7972 _
    refine wp_of e23 c23_24 (rw_iconst (pc' := 25) rfl ?_)
    exact wp_zreturn e23 c23_25 rfl (by omega) ⟨rfl, w7976, f7978, 1, rfl, ⟨by omega, by omega⟩⟩
  · refine wp_of e23 c23_11 (rw_aload_n (pc' := 12) (v := .ref r0) rfl rfl rfl ?_)
    refine wp_of e23 c23_12 (rw_iconst (pc' := 13) rfl ?_)
    refine wp_of e23 c23_13 (xc_V (pc' := 16) (r := r0) (as := [vI 1]) (st := []) (lm_1_47) rfl rfl (Nat.le_of_ble_eq_true rfl) hW g0 sh_3 (by decide) rfl (by decide) (s_20 hW g0 ⟨by omega, by omega⟩) (fun R7979 T7980 H7981 p7982 => ?_))
    obtain ⟨e7983, w7985, f7986, z7987, e7984, b7988⟩ := p7982
    subst e7983
    subst e7984
    have f7989 := f0.tr f7986 rfl
    show wp _ _ 23 16 [(0, .ref r0), (1, .ref s1)] [vI z7987] _ H7981 _
    exact wp_zreturn e23 c23_16 rfl (by omega) ⟨rfl, w7985, f7989, z7987, rfl, ⟨by omega, by omega⟩⟩
/-! StrikeAwake$Reader.whole(II)I -/
theorem e24 : wq_en 24 = some (1, 4, false, some FieldType.int) := rfl
theorem c24_0 : mc_cd 24 0 = some (.aload_n 0, 1) := by decide +kernel
theorem c24_1 : mc_cd 24 1 = some (.getfield 12, 3) := by decide +kernel
theorem c24_4 : mc_cd 24 4 = some (.getfield 38, 3) := by decide +kernel
theorem c24_7 : mc_cd 24 7 = some (.iconst 2, 1) := by decide +kernel
theorem c24_8 : mc_cd 24 8 = some (.if_icmp .eq 11, 3) := by decide +kernel
theorem c24_11 : mc_cd 24 11 = some (.aload_n 0, 1) := by decide +kernel
theorem c24_12 : mc_cd 24 12 = some (.iconst 1, 1) := by decide +kernel
theorem c24_13 : mc_cd 24 13 = some (.invokevirtual 47, 3) := by decide +kernel
theorem c24_16 : mc_cd 24 16 = some (.pop, 1) := by decide +kernel
theorem c24_17 : mc_cd 24 17 = some (.iconst (-1), 1) := by decide +kernel
theorem c24_18 : mc_cd 24 18 = some (.ireturn, 1) := by decide +kernel
theorem c24_19 : mc_cd 24 19 = some (.aload_n 0, 1) := by decide +kernel
theorem c24_20 : mc_cd 24 20 = some (.getfield 12, 3) := by decide +kernel
theorem c24_23 : mc_cd 24 23 = some (.getfield 230, 3) := by decide +kernel
theorem c24_26 : mc_cd 24 26 = some (.istore_n 3, 1) := by decide +kernel
theorem c24_27 : mc_cd 24 27 = some (.iload_n 3, 1) := by decide +kernel
theorem c24_28 : mc_cd 24 28 = some (.iload_n 1, 1) := by decide +kernel
theorem c24_29 : mc_cd 24 29 = some (.if_icmp .lt 8, 3) := by decide +kernel
theorem c24_32 : mc_cd 24 32 = some (.iload_n 3, 1) := by decide +kernel
theorem c24_33 : mc_cd 24 33 = some (.iload_n 2, 1) := by decide +kernel
theorem c24_34 : mc_cd 24 34 = some (.if_icmp .le 11, 3) := by decide +kernel
theorem c24_37 : mc_cd 24 37 = some (.aload_n 0, 1) := by decide +kernel
theorem c24_38 : mc_cd 24 38 = some (.iconst 4, 1) := by decide +kernel
theorem c24_39 : mc_cd 24 39 = some (.invokevirtual 47, 3) := by decide +kernel
theorem c24_42 : mc_cd 24 42 = some (.pop, 1) := by decide +kernel
theorem c24_43 : mc_cd 24 43 = some (.iconst (-1), 1) := by decide +kernel
theorem c24_44 : mc_cd 24 44 = some (.ireturn, 1) := by decide +kernel
theorem c24_45 : mc_cd 24 45 = some (.aload_n 0, 1) := by decide +kernel
theorem c24_46 : mc_cd 24 46 = some (.getfield 12, 3) := by decide +kernel
theorem c24_49 : mc_cd 24 49 = some (.invokevirtual 74, 3) := by decide +kernel
theorem c24_52 : mc_cd 24 52 = some (.iload_n 3, 1) := by decide +kernel
theorem c24_53 : mc_cd 24 53 = some (.ireturn, 1) := by decide +kernel
abbrev q_24 (r0 : Nat) (a1 : Int) (a2 : Int) (tk : Nat) (rb : Nat) (T : wq_T) (H : wq_H) : Option Value → wq_T → wq_H → Prop := fun r T' H' => T = T' ∧ WT T H' ∧ wfr [(3, 3), (3, 4), (4, 2), (4, 3), (4, 4), (4, 5), (4, 6)] T H H' ∧ ∃ z : Int, some (vI z) = r ∧ ((-1) ≤ z ∧ z ≤ 100) ∧ (z = -1 ∨ (a1 ≤ z ∧ z ≤ a2))
set_option maxHeartbeats 4000000 in
theorem s_24 {kt : Nat → Option mc_E} {T : wq_T} {H : wq_H} {r0 : Nat} {a1 : Int} {a2 : Int} {tk : Nat} {rb : Nat} (hW : WT T H) (g0 : T.2.2.2 r0 = some 3) (i1 : 0 ≤ a1 ∧ a1 ≤ 100) (i2 : 0 ≤ a2 ∧ a2 ≤ 100) (qtk : H r0 0 = (tk : Int)) (gtk : T.2.2.2 tk = some 4) (qrb : H tk 0 = (rb : Int)) (grb : T.2.2.2 rb = some 2) : wpc kt 2 24 [.ref r0, vI a1, vI a2] T H (q_24 r0 a1 a2 tk rb T H) := by
  refine wp_enter e24 (Nat.le_of_ble_eq_true rfl) rfl ?_
  have f0 : wfr [(3, 3), (3, 4), (4, 2), (4, 3), (4, 4), (4, 5), (4, 6)] T H H := wfr.rf
  show wp _ _ 24 0 [(0, .ref r0), (1, vI a1), (2, vI a2)] [] _ H _
  refine wp_of e24 c24_0 (rw_aload_n (pc' := 1) (v := .ref r0) rfl rfl rfl ?_)
  refine wp_of e24 c24_1 (xg_K (pc' := 4) lf_1_12 hW g0 sh_3 (by decide) (by decide) rfl qtk rfl ?_)
  refine wp_of e24 c24_4 (xg_I (pc' := 7) lf_1_38 hW gtk sh_4 (by decide) (by decide) ty_4_3 rfl rfl (fun b8039 b8040 => ?_))
  refine wp_of e24 c24_7 (rw_iconst (pc' := 8) rfl ?_)
  refine wp_of e24 c24_8 (rw_icmp_eq (p1 := 19) (p2 := 11) (by decide) rfl ⟨by omega, by omega⟩ ⟨by omega, by omega⟩ (fun c8041 => ?_) (fun c8041 => ?_))
  · refine wp_of e24 c24_19 (rw_aload_n (pc' := 20) (v := .ref r0) rfl rfl rfl ?_)
    refine wp_of e24 c24_20 (xg_K (pc' := 23) lf_1_12 hW g0 sh_3 (by decide) (by decide) rfl qtk rfl ?_)
    refine wp_of e24 c24_23 (xg_I (pc' := 26) lf_1_230 hW gtk sh_4 (by decide) (by decide) ty_4_5 rfl rfl (fun b8042 b8043 => ?_))
    refine wp_of e24 c24_26 (rw_istore_n (pc' := 27) (z := H tk 5) (L' := [(3, vI (H tk 5)), (0, .ref r0), (1, vI a1), (2, vI a2)]) rfl rfl rfl ?_)
    refine wp_of e24 c24_27 (rw_iload_n (pc' := 28) (z := H tk 5) rfl rfl ?_)
    refine wp_of e24 c24_28 (rw_iload_n (pc' := 29) (z := a1) rfl rfl ?_)
    refine wp_of e24 c24_29 (rw_icmp_lt (p1 := 37) (p2 := 32) (by decide) rfl ⟨by omega, by omega⟩ ⟨by omega, by omega⟩ (fun c8044 => ?_) (fun c8044 => ?_))
    · refine wp_of e24 c24_37 (rw_aload_n (pc' := 38) (v := .ref r0) rfl rfl rfl ?_)
      refine wp_of e24 c24_38 (rw_iconst (pc' := 39) rfl ?_)
      refine wp_of e24 c24_39 (xc_V (pc' := 42) (r := r0) (as := [vI 4]) (st := []) (lm_1_47) rfl rfl (Nat.le_of_ble_eq_true rfl) hW g0 sh_3 (by decide) rfl (by decide) (s_20 hW g0 ⟨by omega, by omega⟩) (fun R8045 T8046 H8047 p8048 => ?_))
      obtain ⟨e8049, w8051, f8052, z8053, e8050, b8054⟩ := p8048
      subst e8049
      subst e8050
      have f8055 := f0.tr f8052 rfl
      show wp _ _ 24 42 [(3, vI (H tk 5)), (0, .ref r0), (1, vI a1), (2, vI a2)] [vI z8053] _ H8047 _
      refine wp_of e24 c24_42 (rw_pop (pc' := 43) rfl rfl ?_)
      refine wp_of e24 c24_43 (rw_iconst (pc' := 44) rfl ?_)
      exact wp_ireturn e24 c24_44 rfl ⟨rfl, w8051, f8055, -1, rfl, ⟨by omega, by omega⟩, by omega⟩
    · refine wp_of e24 c24_32 (rw_iload_n (pc' := 33) (z := H tk 5) rfl rfl ?_)
      refine wp_of e24 c24_33 (rw_iload_n (pc' := 34) (z := a2) rfl rfl ?_)
      refine wp_of e24 c24_34 (rw_icmp_le (p1 := 45) (p2 := 37) (by decide) rfl ⟨by omega, by omega⟩ ⟨by omega, by omega⟩ (fun c8056 => ?_) (fun c8056 => ?_))
      · refine wp_of e24 c24_45 (rw_aload_n (pc' := 46) (v := .ref r0) rfl rfl rfl ?_)
        refine wp_of e24 c24_46 (xg_K (pc' := 49) lf_1_12 hW g0 sh_3 (by decide) (by decide) rfl qtk rfl ?_)
        refine wp_of e24 c24_49 (xc_V (pc' := 52) (r := tk) (as := []) (st := []) (lm_1_74) rfl rfl (Nat.le_of_ble_eq_true rfl) hW gtk sh_4 (by decide) rfl (by decide) (s_16 hW gtk qrb grb) (fun R8057 T8058 H8059 p8060 => ?_))
        obtain ⟨e8061, w8063, f8064, e8062⟩ := p8060
        subst e8061
        subst e8062
        have f8065 := f0.tr f8064 rfl
        show wp _ _ 24 52 [(3, vI (H tk 5)), (0, .ref r0), (1, vI a1), (2, vI a2)] [] _ H8059 _
        refine wp_of e24 c24_52 (rw_iload_n (pc' := 53) (z := H tk 5) rfl rfl ?_)
        exact wp_ireturn e24 c24_53 rfl ⟨rfl, w8063, f8065, H tk 5, rfl, ⟨by omega, by omega⟩, by omega⟩
      · refine wp_of e24 c24_37 (rw_aload_n (pc' := 38) (v := .ref r0) rfl rfl rfl ?_)
        refine wp_of e24 c24_38 (rw_iconst (pc' := 39) rfl ?_)
        refine wp_of e24 c24_39 (xc_V (pc' := 42) (r := r0) (as := [vI 4]) (st := []) (lm_1_47) rfl rfl (Nat.le_of_ble_eq_true rfl) hW g0 sh_3 (by decide) rfl (by decide) (s_20 hW g0 ⟨by omega, by omega⟩) (fun R8066 T8067 H8068 p8069 => ?_))
        obtain ⟨e8070, w8072, f8073, z8074, e8071, b8075⟩ := p8069
        subst e8070
        subst e8071
        have f8076 := f0.tr f8073 rfl
        show wp _ _ 24 42 [(3, vI (H tk 5)), (0, .ref r0), (1, vI a1), (2, vI a2)] [vI z8074] _ H8068 _
        refine wp_of e24 c24_42 (rw_pop (pc' := 43) rfl rfl ?_)
        refine wp_of e24 c24_43 (rw_iconst (pc' := 44) rfl ?_)
        exact wp_ireturn e24 c24_44 rfl ⟨rfl, w8072, f8076, -1, rfl, ⟨by omega, by omega⟩, by omega⟩
  · refine wp_of e24 c24_11 (rw_aload_n (pc' := 12) (v := .ref r0) rfl rfl rfl ?_)
    refine wp_of e24 c24_12 (rw_iconst (pc' := 13) rfl ?_)
    refine wp_of e24 c24_13 (xc_V (pc' := 16) (r := r0) (as := [vI 1]) (st := []) (lm_1_47) rfl rfl (Nat.le_of_ble_eq_true rfl) hW g0 sh_3 (by decide) rfl (by decide) (s_20 hW g0 ⟨by omega, by omega⟩) (fun R8077 T8078 H8079 p8080 => ?_))
    obtain ⟨e8081, w8083, f8084, z8085, e8082, b8086⟩ := p8080
    subst e8081
    subst e8082
    have f8087 := f0.tr f8084 rfl
    show wp _ _ 24 16 [(0, .ref r0), (1, vI a1), (2, vI a2)] [vI z8085] _ H8079 _
    refine wp_of e24 c24_16 (rw_pop (pc' := 17) rfl rfl ?_)
    refine wp_of e24 c24_17 (rw_iconst (pc' := 18) rfl ?_)
    exact wp_ireturn e24 c24_18 rfl ⟨rfl, w8083, f8087, -1, rfl, ⟨by omega, by omega⟩, by omega⟩
/-! StrikeAwake$Reader.readsLaw(LStrikeAwake$Parish;)Z -/
theorem e22 : wq_en 22 = some (1, 5, false, some FieldType.boolean) := rfl
theorem c22_0 : mc_cd 22 0 = some (.aload_n 0, 1) := by decide +kernel
theorem c22_1 : mc_cd 22 1 = some (.ldc 114, 2) := by decide +kernel
theorem c22_3 : mc_cd 22 3 = some (.invokevirtual 115, 3) := by decide +kernel
theorem c22_6 : mc_cd 22 6 = some (.ifCond .eq 13, 3) := by decide +kernel
theorem c22_9 : mc_cd 22 9 = some (.aload_n 0, 1) := by decide +kernel
theorem c22_10 : mc_cd 22 10 = some (.iconst 1, 1) := by decide +kernel
theorem c22_11 : mc_cd 22 11 = some (.bipush 24, 2) := by decide +kernel
theorem c22_13 : mc_cd 22 13 = some (.invokevirtual 119, 3) := by decide +kernel
theorem c22_16 : mc_cd 22 16 = some (.goto 4, 3) := by decide +kernel
theorem c22_19 : mc_cd 22 19 = some (.iconst (-1), 1) := by decide +kernel
theorem c22_20 : mc_cd 22 20 = some (.istore_n 2, 1) := by decide +kernel
theorem c22_21 : mc_cd 22 21 = some (.iload_n 2, 1) := by decide +kernel
theorem c22_22 : mc_cd 22 22 = some (.ifCond .lt 22, 3) := by decide +kernel
theorem c22_25 : mc_cd 22 25 = some (.aload_n 0, 1) := by decide +kernel
theorem c22_26 : mc_cd 22 26 = some (.ldc 123, 2) := by decide +kernel
theorem c22_28 : mc_cd 22 28 = some (.invokevirtual 115, 3) := by decide +kernel
theorem c22_31 : mc_cd 22 31 = some (.ifCond .eq 13, 3) := by decide +kernel
theorem c22_34 : mc_cd 22 34 = some (.aload_n 0, 1) := by decide +kernel
theorem c22_35 : mc_cd 22 35 = some (.iconst 0, 1) := by decide +kernel
theorem c22_36 : mc_cd 22 36 = some (.bipush 9, 2) := by decide +kernel
theorem c22_38 : mc_cd 22 38 = some (.invokevirtual 119, 3) := by decide +kernel
theorem c22_41 : mc_cd 22 41 = some (.goto 4, 3) := by decide +kernel
theorem c22_44 : mc_cd 22 44 = some (.iconst (-1), 1) := by decide +kernel
theorem c22_45 : mc_cd 22 45 = some (.istore_n 3, 1) := by decide +kernel
theorem c22_46 : mc_cd 22 46 = some (.iload_n 3, 1) := by decide +kernel
theorem c22_47 : mc_cd 22 47 = some (.ifCond .lt 21, 3) := by decide +kernel
theorem c22_50 : mc_cd 22 50 = some (.aload_n 0, 1) := by decide +kernel
theorem c22_51 : mc_cd 22 51 = some (.ldc 125, 2) := by decide +kernel
theorem c22_53 : mc_cd 22 53 = some (.invokevirtual 115, 3) := by decide +kernel
theorem c22_56 : mc_cd 22 56 = some (.ifCond .eq 12, 3) := by decide +kernel
theorem c22_59 : mc_cd 22 59 = some (.aload_n 0, 1) := by decide +kernel
theorem c22_60 : mc_cd 22 60 = some (.iconst 0, 1) := by decide +kernel
theorem c22_61 : mc_cd 22 61 = some (.iconst 3, 1) := by decide +kernel
theorem c22_62 : mc_cd 22 62 = some (.invokevirtual 119, 3) := by decide +kernel
theorem c22_65 : mc_cd 22 65 = some (.goto 4, 3) := by decide +kernel
theorem c22_68 : mc_cd 22 68 = some (.iconst (-1), 1) := by decide +kernel
theorem c22_69 : mc_cd 22 69 = some (.istore 4, 2) := by decide +kernel
theorem c22_71 : mc_cd 22 71 = some (.iload 4, 2) := by decide +kernel
theorem c22_73 : mc_cd 22 73 = some (.ifCond .ge 5, 3) := by decide +kernel
theorem c22_76 : mc_cd 22 76 = some (.iconst 0, 1) := by decide +kernel
theorem c22_77 : mc_cd 22 77 = some (.ireturn, 1) := by decide +kernel
theorem c22_78 : mc_cd 22 78 = some (.aload_n 1, 1) := by decide +kernel
theorem c22_79 : mc_cd 22 79 = some (.iload_n 2, 1) := by decide +kernel
theorem c22_80 : mc_cd 22 80 = some (.putfield 41, 3) := by decide +kernel
theorem c22_83 : mc_cd 22 83 = some (.aload_n 1, 1) := by decide +kernel
theorem c22_84 : mc_cd 22 84 = some (.iload_n 3, 1) := by decide +kernel
theorem c22_85 : mc_cd 22 85 = some (.putfield 127, 3) := by decide +kernel
theorem c22_88 : mc_cd 22 88 = some (.aload_n 1, 1) := by decide +kernel
theorem c22_89 : mc_cd 22 89 = some (.iload 4, 2) := by decide +kernel
theorem c22_91 : mc_cd 22 91 = some (.putfield 129, 3) := by decide +kernel
theorem c22_94 : mc_cd 22 94 = some (.iconst 1, 1) := by decide +kernel
theorem c22_95 : mc_cd 22 95 = some (.ireturn, 1) := by decide +kernel
abbrev q_22 (r0 : Nat) (r1 : Nat) (tk : Nat) (rb : Nat) (T : wq_T) (H : wq_H) : Option Value → wq_T → wq_H → Prop := fun r T' H' => T = T' ∧ WT T H' ∧ wfr [(27, 7), (27, 8), (27, 9), (3, 3), (3, 4), (4, 2), (4, 3), (4, 4), (4, 5), (4, 6)] T H H' ∧ ∃ z : Int, some (vI z) = r ∧ (0 ≤ z ∧ z ≤ 1)
set_option maxHeartbeats 4000000 in
theorem s_22 {kt : Nat → Option mc_E} {T : wq_T} {H : wq_H} {r0 : Nat} {r1 : Nat} {tk : Nat} {rb : Nat} (hW : WT T H) (g0 : T.2.2.2 r0 = some 3) (g1 : T.2.2.2 r1 = some 27) (qtk : H r0 0 = (tk : Int)) (gtk : T.2.2.2 tk = some 4) (qrb : H tk 0 = (rb : Int)) (grb : T.2.2.2 rb = some 2) : wpc kt 3 22 [.ref r0, .ref r1] T H (q_22 r0 r1 tk rb T H) := by
  refine wp_enter e22 (Nat.le_of_ble_eq_true rfl) rfl ?_
  have f0 : wfr [(27, 7), (27, 8), (27, 9), (3, 3), (3, 4), (4, 2), (4, 3), (4, 4), (4, 5), (4, 6)] T H H := wfr.rf
  show wp _ _ 22 0 [(0, .ref r0), (1, .ref r1)] [] _ H _
  refine wp_of e22 c22_0 (rw_aload_n (pc' := 1) (v := .ref r0) rfl rfl rfl ?_)
  refine wp_of e22 c22_1 (rw_ldcS (pc' := 3) (k := 64) rfl rfl rfl rfl ?_)
  refine wp_of e22 c22_3 (xc_V (pc' := 6) (r := r0) (as := [.ref 64]) (st := []) (lm_1_115) rfl rfl (Nat.le_of_ble_eq_true rfl) hW g0 sh_3 (by decide) rfl (by decide) (s_23 hW g0 rfl qtk gtk qrb grb) (fun R8207 T8208 H8209 p8210 => ?_))
  obtain ⟨e8211, w8213, f8214, z8215, e8212, b8216⟩ := p8210
  subst e8211
  subst e8212
  have f8217 := f0.tr f8214 rfl
  show wp _ _ 22 6 [(0, .ref r0), (1, .ref r1)] [vI z8215] _ H8209 _
  refine wp_of e22 c22_6 (rw_if_eq (p1 := 19) (p2 := 9) (by decide) rfl ⟨by omega, by omega⟩ (fun c8218 => ?_) (fun c8218 => ?_))
  · refine wp_of e22 c22_19 (rw_iconst (pc' := 20) rfl ?_)
    refine wp_of e22 c22_20 (rw_istore_n (pc' := 21) (z := -1) (L' := [(2, vI (-1)), (0, .ref r0), (1, .ref r1)]) rfl rfl rfl ?_)
    refine wp_of e22 c22_21 (rw_iload_n (pc' := 22) (z := -1) rfl rfl ?_)
    refine wp_of e22 c22_22 (rw_if_lt (p1 := 44) (p2 := 25) (by decide) rfl ⟨by omega, by omega⟩ (fun c8219 => ?_) (fun c8219 => ?_))
    · refine wp_of e22 c22_44 (rw_iconst (pc' := 45) rfl ?_)
      refine wp_of e22 c22_45 (rw_istore_n (pc' := 46) (z := -1) (L' := [(3, vI (-1)), (2, vI (-1)), (0, .ref r0), (1, .ref r1)]) rfl rfl rfl ?_)
      refine wp_of e22 c22_46 (rw_iload_n (pc' := 47) (z := -1) rfl rfl ?_)
      refine wp_of e22 c22_47 (rw_if_lt (p1 := 68) (p2 := 50) (by decide) rfl ⟨by omega, by omega⟩ (fun c8220 => ?_) (fun c8220 => ?_))
      · refine wp_of e22 c22_68 (rw_iconst (pc' := 69) rfl ?_)
        refine wp_of e22 c22_69 (rw_istore (pc' := 71) (z := -1) (L' := [(4, vI (-1)), (3, vI (-1)), (2, vI (-1)), (0, .ref r0), (1, .ref r1)]) rfl rfl rfl ?_)
        refine wp_of e22 c22_71 (rw_iload (pc' := 73) (z := -1) rfl rfl ?_)
        refine wp_of e22 c22_73 (rw_if_ge (p1 := 78) (p2 := 76) (by decide) rfl ⟨by omega, by omega⟩ (fun c8221 => ?_) (fun c8221 => ?_))
        · exfalso
          omega
        · refine wp_of e22 c22_76 (rw_iconst (pc' := 77) rfl ?_)
          exact wp_zreturn e22 c22_77 rfl (by omega) ⟨rfl, w8213, f8217, 0, rfl, ⟨by omega, by omega⟩⟩
      · exfalso
        omega
    · exfalso
      omega
  · refine wp_of e22 c22_9 (rw_aload_n (pc' := 10) (v := .ref r0) rfl rfl rfl ?_)
    refine wp_of e22 c22_10 (rw_iconst (pc' := 11) rfl ?_)
    refine wp_of e22 c22_11 (rw_bipush (pc' := 13) (z := 24) rfl (by decide) ?_)
    have k8222 : H8209 r0 0 = H r0 0 := (f8214 r0 0 _ g0 rfl)
    have q8223 : H8209 r0 0 = (tk : Int) := k8222.trans qtk
    have k8224 : H8209 tk 0 = H tk 0 := (f8214 tk 0 _ gtk rfl)
    have q8225 : H8209 tk 0 = (rb : Int) := k8224.trans qrb
    refine wp_of e22 c22_13 (xc_V (pc' := 16) (r := r0) (as := [vI 1, vI 24]) (st := []) (lm_1_119) rfl rfl (Nat.le_of_ble_eq_true rfl) w8213 g0 sh_3 (by decide) rfl (by decide) (s_24 w8213 g0 ⟨by omega, by omega⟩ ⟨by omega, by omega⟩ q8223 gtk q8225 grb) (fun R8226 T8227 H8228 p8229 => ?_))
    obtain ⟨e8230, w8232, f8233, z8235, e8231, b8236, p8234⟩ := p8229
    subst e8230
    subst e8231
    have f8237 := f8217.tr f8233 rfl
    show wp _ _ 22 16 [(0, .ref r0), (1, .ref r1)] [vI z8235] _ H8228 _
    refine wp_of e22 c22_16 (rw_goto (p1 := 20) (by decide) ?_)
    refine wp_of e22 c22_20 (rw_istore_n (pc' := 21) (z := z8235) (L' := [(2, vI z8235), (0, .ref r0), (1, .ref r1)]) rfl rfl rfl ?_)
    refine wp_of e22 c22_21 (rw_iload_n (pc' := 22) (z := z8235) rfl rfl ?_)
    refine wp_of e22 c22_22 (rw_if_lt (p1 := 44) (p2 := 25) (by decide) rfl ⟨by omega, by omega⟩ (fun c8238 => ?_) (fun c8238 => ?_))
    · refine wp_of e22 c22_44 (rw_iconst (pc' := 45) rfl ?_)
      refine wp_of e22 c22_45 (rw_istore_n (pc' := 46) (z := -1) (L' := [(3, vI (-1)), (2, vI z8235), (0, .ref r0), (1, .ref r1)]) rfl rfl rfl ?_)
      refine wp_of e22 c22_46 (rw_iload_n (pc' := 47) (z := -1) rfl rfl ?_)
      refine wp_of e22 c22_47 (rw_if_lt (p1 := 68) (p2 := 50) (by decide) rfl ⟨by omega, by omega⟩ (fun c8239 => ?_) (fun c8239 => ?_))
      · refine wp_of e22 c22_68 (rw_iconst (pc' := 69) rfl ?_)
        refine wp_of e22 c22_69 (rw_istore (pc' := 71) (z := -1) (L' := [(4, vI (-1)), (3, vI (-1)), (2, vI z8235), (0, .ref r0), (1, .ref r1)]) rfl rfl rfl ?_)
        refine wp_of e22 c22_71 (rw_iload (pc' := 73) (z := -1) rfl rfl ?_)
        refine wp_of e22 c22_73 (rw_if_ge (p1 := 78) (p2 := 76) (by decide) rfl ⟨by omega, by omega⟩ (fun c8240 => ?_) (fun c8240 => ?_))
        · exfalso
          omega
        · refine wp_of e22 c22_76 (rw_iconst (pc' := 77) rfl ?_)
          exact wp_zreturn e22 c22_77 rfl (by omega) ⟨rfl, w8232, f8237, 0, rfl, ⟨by omega, by omega⟩⟩
      · exfalso
        omega
    · refine wp_of e22 c22_25 (rw_aload_n (pc' := 26) (v := .ref r0) rfl rfl rfl ?_)
      refine wp_of e22 c22_26 (rw_ldcS (pc' := 28) (k := 65) rfl rfl rfl rfl ?_)
      have k8241 : H8228 r0 0 = H8209 r0 0 := (f8233 r0 0 _ g0 rfl)
      have q8242 : H8228 r0 0 = (tk : Int) := k8241.trans q8223
      have k8243 : H8228 tk 0 = H8209 tk 0 := (f8233 tk 0 _ gtk rfl)
      have q8244 : H8228 tk 0 = (rb : Int) := k8243.trans q8225
      refine wp_of e22 c22_28 (xc_V (pc' := 31) (r := r0) (as := [.ref 65]) (st := []) (lm_1_115) rfl rfl (Nat.le_of_ble_eq_true rfl) w8232 g0 sh_3 (by decide) rfl (by decide) (s_23 w8232 g0 rfl q8242 gtk q8244 grb) (fun R8245 T8246 H8247 p8248 => ?_))
      obtain ⟨e8249, w8251, f8252, z8253, e8250, b8254⟩ := p8248
      subst e8249
      subst e8250
      have f8255 := f8237.tr f8252 rfl
      show wp _ _ 22 31 [(2, vI z8235), (0, .ref r0), (1, .ref r1)] [vI z8253] _ H8247 _
      refine wp_of e22 c22_31 (rw_if_eq (p1 := 44) (p2 := 34) (by decide) rfl ⟨by omega, by omega⟩ (fun c8256 => ?_) (fun c8256 => ?_))
      · refine wp_of e22 c22_44 (rw_iconst (pc' := 45) rfl ?_)
        refine wp_of e22 c22_45 (rw_istore_n (pc' := 46) (z := -1) (L' := [(3, vI (-1)), (2, vI z8235), (0, .ref r0), (1, .ref r1)]) rfl rfl rfl ?_)
        refine wp_of e22 c22_46 (rw_iload_n (pc' := 47) (z := -1) rfl rfl ?_)
        refine wp_of e22 c22_47 (rw_if_lt (p1 := 68) (p2 := 50) (by decide) rfl ⟨by omega, by omega⟩ (fun c8257 => ?_) (fun c8257 => ?_))
        · refine wp_of e22 c22_68 (rw_iconst (pc' := 69) rfl ?_)
          refine wp_of e22 c22_69 (rw_istore (pc' := 71) (z := -1) (L' := [(4, vI (-1)), (3, vI (-1)), (2, vI z8235), (0, .ref r0), (1, .ref r1)]) rfl rfl rfl ?_)
          refine wp_of e22 c22_71 (rw_iload (pc' := 73) (z := -1) rfl rfl ?_)
          refine wp_of e22 c22_73 (rw_if_ge (p1 := 78) (p2 := 76) (by decide) rfl ⟨by omega, by omega⟩ (fun c8258 => ?_) (fun c8258 => ?_))
          · exfalso
            omega
          · refine wp_of e22 c22_76 (rw_iconst (pc' := 77) rfl ?_)
            exact wp_zreturn e22 c22_77 rfl (by omega) ⟨rfl, w8251, f8255, 0, rfl, ⟨by omega, by omega⟩⟩
        · exfalso
          omega
      · refine wp_of e22 c22_34 (rw_aload_n (pc' := 35) (v := .ref r0) rfl rfl rfl ?_)
        refine wp_of e22 c22_35 (rw_iconst (pc' := 36) rfl ?_)
        refine wp_of e22 c22_36 (rw_bipush (pc' := 38) (z := 9) rfl (by decide) ?_)
        have k8259 : H8247 r0 0 = H8228 r0 0 := (f8252 r0 0 _ g0 rfl)
        have q8260 : H8247 r0 0 = (tk : Int) := k8259.trans q8242
        have k8261 : H8247 tk 0 = H8228 tk 0 := (f8252 tk 0 _ gtk rfl)
        have q8262 : H8247 tk 0 = (rb : Int) := k8261.trans q8244
        refine wp_of e22 c22_38 (xc_V (pc' := 41) (r := r0) (as := [vI 0, vI 9]) (st := []) (lm_1_119) rfl rfl (Nat.le_of_ble_eq_true rfl) w8251 g0 sh_3 (by decide) rfl (by decide) (s_24 w8251 g0 ⟨by omega, by omega⟩ ⟨by omega, by omega⟩ q8260 gtk q8262 grb) (fun R8263 T8264 H8265 p8266 => ?_))
        obtain ⟨e8267, w8269, f8270, z8272, e8268, b8273, p8271⟩ := p8266
        subst e8267
        subst e8268
        have f8274 := f8255.tr f8270 rfl
        show wp _ _ 22 41 [(2, vI z8235), (0, .ref r0), (1, .ref r1)] [vI z8272] _ H8265 _
        refine wp_of e22 c22_41 (rw_goto (p1 := 45) (by decide) ?_)
        refine wp_of e22 c22_45 (rw_istore_n (pc' := 46) (z := z8272) (L' := [(3, vI z8272), (2, vI z8235), (0, .ref r0), (1, .ref r1)]) rfl rfl rfl ?_)
        refine wp_of e22 c22_46 (rw_iload_n (pc' := 47) (z := z8272) rfl rfl ?_)
        refine wp_of e22 c22_47 (rw_if_lt (p1 := 68) (p2 := 50) (by decide) rfl ⟨by omega, by omega⟩ (fun c8275 => ?_) (fun c8275 => ?_))
        · refine wp_of e22 c22_68 (rw_iconst (pc' := 69) rfl ?_)
          refine wp_of e22 c22_69 (rw_istore (pc' := 71) (z := -1) (L' := [(4, vI (-1)), (3, vI z8272), (2, vI z8235), (0, .ref r0), (1, .ref r1)]) rfl rfl rfl ?_)
          refine wp_of e22 c22_71 (rw_iload (pc' := 73) (z := -1) rfl rfl ?_)
          refine wp_of e22 c22_73 (rw_if_ge (p1 := 78) (p2 := 76) (by decide) rfl ⟨by omega, by omega⟩ (fun c8276 => ?_) (fun c8276 => ?_))
          · exfalso
            omega
          · refine wp_of e22 c22_76 (rw_iconst (pc' := 77) rfl ?_)
            exact wp_zreturn e22 c22_77 rfl (by omega) ⟨rfl, w8269, f8274, 0, rfl, ⟨by omega, by omega⟩⟩
        · refine wp_of e22 c22_50 (rw_aload_n (pc' := 51) (v := .ref r0) rfl rfl rfl ?_)
          refine wp_of e22 c22_51 (rw_ldcS (pc' := 53) (k := 66) rfl rfl rfl rfl ?_)
          have k8277 : H8265 r0 0 = H8247 r0 0 := (f8270 r0 0 _ g0 rfl)
          have q8278 : H8265 r0 0 = (tk : Int) := k8277.trans q8260
          have k8279 : H8265 tk 0 = H8247 tk 0 := (f8270 tk 0 _ gtk rfl)
          have q8280 : H8265 tk 0 = (rb : Int) := k8279.trans q8262
          refine wp_of e22 c22_53 (xc_V (pc' := 56) (r := r0) (as := [.ref 66]) (st := []) (lm_1_115) rfl rfl (Nat.le_of_ble_eq_true rfl) w8269 g0 sh_3 (by decide) rfl (by decide) (s_23 w8269 g0 rfl q8278 gtk q8280 grb) (fun R8281 T8282 H8283 p8284 => ?_))
          obtain ⟨e8285, w8287, f8288, z8289, e8286, b8290⟩ := p8284
          subst e8285
          subst e8286
          have f8291 := f8274.tr f8288 rfl
          show wp _ _ 22 56 [(3, vI z8272), (2, vI z8235), (0, .ref r0), (1, .ref r1)] [vI z8289] _ H8283 _
          refine wp_of e22 c22_56 (rw_if_eq (p1 := 68) (p2 := 59) (by decide) rfl ⟨by omega, by omega⟩ (fun c8292 => ?_) (fun c8292 => ?_))
          · refine wp_of e22 c22_68 (rw_iconst (pc' := 69) rfl ?_)
            refine wp_of e22 c22_69 (rw_istore (pc' := 71) (z := -1) (L' := [(4, vI (-1)), (3, vI z8272), (2, vI z8235), (0, .ref r0), (1, .ref r1)]) rfl rfl rfl ?_)
            refine wp_of e22 c22_71 (rw_iload (pc' := 73) (z := -1) rfl rfl ?_)
            refine wp_of e22 c22_73 (rw_if_ge (p1 := 78) (p2 := 76) (by decide) rfl ⟨by omega, by omega⟩ (fun c8293 => ?_) (fun c8293 => ?_))
            · exfalso
              omega
            · refine wp_of e22 c22_76 (rw_iconst (pc' := 77) rfl ?_)
              exact wp_zreturn e22 c22_77 rfl (by omega) ⟨rfl, w8287, f8291, 0, rfl, ⟨by omega, by omega⟩⟩
          · refine wp_of e22 c22_59 (rw_aload_n (pc' := 60) (v := .ref r0) rfl rfl rfl ?_)
            refine wp_of e22 c22_60 (rw_iconst (pc' := 61) rfl ?_)
            refine wp_of e22 c22_61 (rw_iconst (pc' := 62) rfl ?_)
            have k8294 : H8283 r0 0 = H8265 r0 0 := (f8288 r0 0 _ g0 rfl)
            have q8295 : H8283 r0 0 = (tk : Int) := k8294.trans q8278
            have k8296 : H8283 tk 0 = H8265 tk 0 := (f8288 tk 0 _ gtk rfl)
            have q8297 : H8283 tk 0 = (rb : Int) := k8296.trans q8280
            refine wp_of e22 c22_62 (xc_V (pc' := 65) (r := r0) (as := [vI 0, vI 3]) (st := []) (lm_1_119) rfl rfl (Nat.le_of_ble_eq_true rfl) w8287 g0 sh_3 (by decide) rfl (by decide) (s_24 w8287 g0 ⟨by omega, by omega⟩ ⟨by omega, by omega⟩ q8295 gtk q8297 grb) (fun R8298 T8299 H8300 p8301 => ?_))
            obtain ⟨e8302, w8304, f8305, z8307, e8303, b8308, p8306⟩ := p8301
            subst e8302
            subst e8303
            have f8309 := f8291.tr f8305 rfl
            show wp _ _ 22 65 [(3, vI z8272), (2, vI z8235), (0, .ref r0), (1, .ref r1)] [vI z8307] _ H8300 _
            refine wp_of e22 c22_65 (rw_goto (p1 := 69) (by decide) ?_)
            refine wp_of e22 c22_69 (rw_istore (pc' := 71) (z := z8307) (L' := [(4, vI z8307), (3, vI z8272), (2, vI z8235), (0, .ref r0), (1, .ref r1)]) rfl rfl rfl ?_)
            refine wp_of e22 c22_71 (rw_iload (pc' := 73) (z := z8307) rfl rfl ?_)
            refine wp_of e22 c22_73 (rw_if_ge (p1 := 78) (p2 := 76) (by decide) rfl ⟨by omega, by omega⟩ (fun c8310 => ?_) (fun c8310 => ?_))
            · refine wp_of e22 c22_78 (rw_aload_n (pc' := 79) (v := .ref r1) rfl rfl rfl ?_)
              refine wp_of e22 c22_79 (rw_iload_n (pc' := 80) (z := z8235) rfl rfl ?_)
              refine wp_of e22 c22_80 (xp_I (pc' := 83) lf_1_41 w8304 g1 sh_27 (by decide) (by decide) ty_27_7 rfl rfl (by omega) (by omega) ⟨by omega, by omega⟩ rfl (fun H8311 e8312 w8313 => ?_))
              have f8314 := f8309.put' e8312 g1 rfl
              have k8315 : H8311 r1 7 = z8235 := wq_u_s e8312
              refine wp_of e22 c22_83 (rw_aload_n (pc' := 84) (v := .ref r1) rfl rfl rfl ?_)
              refine wp_of e22 c22_84 (rw_iload_n (pc' := 85) (z := z8272) rfl rfl ?_)
              refine wp_of e22 c22_85 (xp_I (pc' := 88) lf_1_127 w8313 g1 sh_27 (by decide) (by decide) ty_27_8 rfl rfl (by omega) (by omega) ⟨by omega, by omega⟩ rfl (fun H8316 e8317 w8318 => ?_))
              have f8319 := f8314.put' e8317 g1 rfl
              have k8320 : H8316 r1 8 = z8272 := wq_u_s e8317
              refine wp_of e22 c22_88 (rw_aload_n (pc' := 89) (v := .ref r1) rfl rfl rfl ?_)
              refine wp_of e22 c22_89 (rw_iload (pc' := 91) (z := z8307) rfl rfl ?_)
              refine wp_of e22 c22_91 (xp_I (pc' := 94) lf_1_129 w8318 g1 sh_27 (by decide) (by decide) ty_27_9 rfl rfl (by omega) (by omega) ⟨by omega, by omega⟩ rfl (fun H8321 e8322 w8323 => ?_))
              have f8324 := f8319.put' e8322 g1 rfl
              have k8325 : H8321 r1 9 = z8307 := wq_u_s e8322
              refine wp_of e22 c22_94 (rw_iconst (pc' := 95) rfl ?_)
              exact wp_zreturn e22 c22_95 rfl (by omega) ⟨rfl, w8323, f8324, 1, rfl, ⟨by omega, by omega⟩⟩
            · refine wp_of e22 c22_76 (rw_iconst (pc' := 77) rfl ?_)
              exact wp_zreturn e22 c22_77 rfl (by omega) ⟨rfl, w8304, f8309, 0, rfl, ⟨by omega, by omega⟩⟩
/-! StrikeAwake$Reader.isName()Z -/
theorem e26 : wq_en 26 = some (1, 1, false, some FieldType.boolean) := rfl
theorem c26_0 : mc_cd 26 0 = some (.aload_n 0, 1) := by decide +kernel
theorem c26_1 : mc_cd 26 1 = some (.getfield 12, 3) := by decide +kernel
theorem c26_4 : mc_cd 26 4 = some (.getfield 38, 3) := by decide +kernel
theorem c26_7 : mc_cd 26 7 = some (.iconst 1, 1) := by decide +kernel
theorem c26_8 : mc_cd 26 8 = some (.if_icmp .ne 14, 3) := by decide +kernel
theorem c26_11 : mc_cd 26 11 = some (.aload_n 0, 1) := by decide +kernel
theorem c26_12 : mc_cd 26 12 = some (.invokevirtual 54, 3) := by decide +kernel
theorem c26_15 : mc_cd 26 15 = some (.ifnonnull 7, 3) := by decide +kernel
theorem c26_18 : mc_cd 26 18 = some (.iconst 1, 1) := by decide +kernel
theorem c26_19 : mc_cd 26 19 = some (.goto 4, 3) := by decide +kernel
theorem c26_22 : mc_cd 26 22 = some (.iconst 0, 1) := by decide +kernel
theorem c26_23 : mc_cd 26 23 = some (.ireturn, 1) := by decide +kernel
abbrev q_26 (r0 : Nat) (T : wq_T) (H : wq_H) : Option Value → wq_T → wq_H → Prop := fun r T' H' => T = T' ∧ H = H' ∧ ∃ z : Int, some (vI z) = r ∧ (0 ≤ z ∧ z ≤ 1)
set_option maxHeartbeats 4000000 in
theorem s_26 {kt : Nat → Option mc_E} {T : wq_T} {H : wq_H} {r0 : Nat} (hW : WT T H) (g0 : T.2.2.2 r0 = some 3) : wpc kt 3 26 [.ref r0] T H (q_26 r0 T H) := by
  refine wp_enter e26 (Nat.le_of_ble_eq_true rfl) rfl ?_
  show wp _ _ 26 0 [(0, .ref r0)] [] _ H _
  refine wp_of e26 c26_0 (rw_aload_n (pc' := 1) (v := .ref r0) rfl rfl rfl ?_)
  refine wp_of e26 c26_1 (xg_R (pc' := 4) lf_1_12 hW g0 sh_3 (by decide) (by decide) ty_3_0 rfl rfl (fun r8343 q8344 g8345 => ?_))
  refine wp_of e26 c26_4 (xg_I (pc' := 7) lf_1_38 hW g8345 sh_4 (by decide) (by decide) ty_4_3 rfl rfl (fun b8346 b8347 => ?_))
  refine wp_of e26 c26_7 (rw_iconst (pc' := 8) rfl ?_)
  refine wp_of e26 c26_8 (rw_icmp_ne (p1 := 22) (p2 := 11) (by decide) rfl ⟨by omega, by omega⟩ ⟨by omega, by omega⟩ (fun c8348 => ?_) (fun c8348 => ?_))
  · refine wp_of e26 c26_22 (rw_iconst (pc' := 23) rfl ?_)
    exact wp_zreturn e26 c26_23 rfl (by omega) ⟨rfl, rfl, 0, rfl, ⟨by omega, by omega⟩⟩
  · refine wp_of e26 c26_11 (rw_aload_n (pc' := 12) (v := .ref r0) rfl rfl rfl ?_)
    refine wp_of e26 c26_12 (xc_V (pc' := 15) (r := r0) (as := []) (st := []) (lm_1_54) rfl rfl (Nat.le_of_ble_eq_true rfl) hW g0 sh_3 (by decide) rfl (by decide) (s_18 hW g0) (fun R8349 T8350 H8351 p8352 => ?_))
    obtain ⟨e8353, e8355, e8354⟩ := p8352
    subst e8353
    subst e8355
    rcases e8354 with e8354 | ⟨r8356, e8354, b8357, b8358⟩
    · subst e8354
      show wp _ _ 26 15 [(0, .ref r0)] [.null] _ H _
      refine wp_of e26 c26_15 (rw_ifnonnull_n (p1 := 22) (p2 := 18) (by decide) rfl ?_)
      refine wp_of e26 c26_18 (rw_iconst (pc' := 19) rfl ?_)
      refine wp_of e26 c26_19 (rw_goto (p1 := 23) (by decide) ?_)
      exact wp_zreturn e26 c26_23 rfl (by omega) ⟨rfl, rfl, 1, rfl, ⟨by omega, by omega⟩⟩
    · subst e8354
      have c8359 : r8356 = 16 ∨ r8356 = 17 ∨ r8356 = 18 ∨ r8356 = 19 ∨ r8356 = 20 ∨ r8356 = 21 ∨ r8356 = 22 ∨ r8356 = 23 ∨ r8356 = 24 ∨ r8356 = 25 ∨ r8356 = 26 := by omega
      rcases c8359 with c8359 | c8359 | c8359 | c8359 | c8359 | c8359 | c8359 | c8359 | c8359 | c8359 | c8359
      · subst c8359
        show wp _ _ 26 15 [(0, .ref r0)] [.ref 16] _ H _
        refine wp_of e26 c26_15 (rw_ifnonnull_r (p1 := 22) (p2 := 18) (by decide) rfl ?_)
        refine wp_of e26 c26_22 (rw_iconst (pc' := 23) rfl ?_)
        exact wp_zreturn e26 c26_23 rfl (by omega) ⟨rfl, rfl, 0, rfl, ⟨by omega, by omega⟩⟩
      · subst c8359
        show wp _ _ 26 15 [(0, .ref r0)] [.ref 17] _ H _
        refine wp_of e26 c26_15 (rw_ifnonnull_r (p1 := 22) (p2 := 18) (by decide) rfl ?_)
        refine wp_of e26 c26_22 (rw_iconst (pc' := 23) rfl ?_)
        exact wp_zreturn e26 c26_23 rfl (by omega) ⟨rfl, rfl, 0, rfl, ⟨by omega, by omega⟩⟩
      · subst c8359
        show wp _ _ 26 15 [(0, .ref r0)] [.ref 18] _ H _
        refine wp_of e26 c26_15 (rw_ifnonnull_r (p1 := 22) (p2 := 18) (by decide) rfl ?_)
        refine wp_of e26 c26_22 (rw_iconst (pc' := 23) rfl ?_)
        exact wp_zreturn e26 c26_23 rfl (by omega) ⟨rfl, rfl, 0, rfl, ⟨by omega, by omega⟩⟩
      · subst c8359
        show wp _ _ 26 15 [(0, .ref r0)] [.ref 19] _ H _
        refine wp_of e26 c26_15 (rw_ifnonnull_r (p1 := 22) (p2 := 18) (by decide) rfl ?_)
        refine wp_of e26 c26_22 (rw_iconst (pc' := 23) rfl ?_)
        exact wp_zreturn e26 c26_23 rfl (by omega) ⟨rfl, rfl, 0, rfl, ⟨by omega, by omega⟩⟩
      · subst c8359
        show wp _ _ 26 15 [(0, .ref r0)] [.ref 20] _ H _
        refine wp_of e26 c26_15 (rw_ifnonnull_r (p1 := 22) (p2 := 18) (by decide) rfl ?_)
        refine wp_of e26 c26_22 (rw_iconst (pc' := 23) rfl ?_)
        exact wp_zreturn e26 c26_23 rfl (by omega) ⟨rfl, rfl, 0, rfl, ⟨by omega, by omega⟩⟩
      · subst c8359
        show wp _ _ 26 15 [(0, .ref r0)] [.ref 21] _ H _
        refine wp_of e26 c26_15 (rw_ifnonnull_r (p1 := 22) (p2 := 18) (by decide) rfl ?_)
        refine wp_of e26 c26_22 (rw_iconst (pc' := 23) rfl ?_)
        exact wp_zreturn e26 c26_23 rfl (by omega) ⟨rfl, rfl, 0, rfl, ⟨by omega, by omega⟩⟩
      · subst c8359
        show wp _ _ 26 15 [(0, .ref r0)] [.ref 22] _ H _
        refine wp_of e26 c26_15 (rw_ifnonnull_r (p1 := 22) (p2 := 18) (by decide) rfl ?_)
        refine wp_of e26 c26_22 (rw_iconst (pc' := 23) rfl ?_)
        exact wp_zreturn e26 c26_23 rfl (by omega) ⟨rfl, rfl, 0, rfl, ⟨by omega, by omega⟩⟩
      · subst c8359
        show wp _ _ 26 15 [(0, .ref r0)] [.ref 23] _ H _
        refine wp_of e26 c26_15 (rw_ifnonnull_r (p1 := 22) (p2 := 18) (by decide) rfl ?_)
        refine wp_of e26 c26_22 (rw_iconst (pc' := 23) rfl ?_)
        exact wp_zreturn e26 c26_23 rfl (by omega) ⟨rfl, rfl, 0, rfl, ⟨by omega, by omega⟩⟩
      · subst c8359
        show wp _ _ 26 15 [(0, .ref r0)] [.ref 24] _ H _
        refine wp_of e26 c26_15 (rw_ifnonnull_r (p1 := 22) (p2 := 18) (by decide) rfl ?_)
        refine wp_of e26 c26_22 (rw_iconst (pc' := 23) rfl ?_)
        exact wp_zreturn e26 c26_23 rfl (by omega) ⟨rfl, rfl, 0, rfl, ⟨by omega, by omega⟩⟩
      · subst c8359
        show wp _ _ 26 15 [(0, .ref r0)] [.ref 25] _ H _
        refine wp_of e26 c26_15 (rw_ifnonnull_r (p1 := 22) (p2 := 18) (by decide) rfl ?_)
        refine wp_of e26 c26_22 (rw_iconst (pc' := 23) rfl ?_)
        exact wp_zreturn e26 c26_23 rfl (by omega) ⟨rfl, rfl, 0, rfl, ⟨by omega, by omega⟩⟩
      · subst c8359
        show wp _ _ 26 15 [(0, .ref r0)] [.ref 26] _ H _
        refine wp_of e26 c26_15 (rw_ifnonnull_r (p1 := 22) (p2 := 18) (by decide) rfl ?_)
        refine wp_of e26 c26_22 (rw_iconst (pc' := 23) rfl ?_)
        exact wp_zreturn e26 c26_23 rfl (by omega) ⟨rfl, rfl, 0, rfl, ⟨by omega, by omega⟩⟩
/-! StrikeAwake$Parish.personNamed(J)I -/
theorem e27 : wq_en 27 = some (7, 4, false, some FieldType.int) := rfl
theorem c27_0 : mc_cd 27 0 = some (.iconst 0, 1) := by decide +kernel
theorem c27_1 : mc_cd 27 1 = some (.istore_n 3, 1) := by decide +kernel
theorem c27_2 : mc_cd 27 2 = some (.iload_n 3, 1) := by decide +kernel
theorem c27_3 : mc_cd 27 3 = some (.aload_n 0, 1) := by decide +kernel
theorem c27_4 : mc_cd 27 4 = some (.getfield 50, 3) := by decide +kernel
theorem c27_7 : mc_cd 27 7 = some (.if_icmp .ge 25, 3) := by decide +kernel
theorem c27_10 : mc_cd 27 10 = some (.aload_n 0, 1) := by decide +kernel
theorem c27_11 : mc_cd 27 11 = some (.getfield 11, 3) := by decide +kernel
theorem c27_14 : mc_cd 27 14 = some (.iload_n 3, 1) := by decide +kernel
theorem c27_15 : mc_cd 27 15 = some (.aaload, 1) := by decide +kernel
theorem c27_16 : mc_cd 27 16 = some (.getfield 86, 3) := by decide +kernel
theorem c27_19 : mc_cd 27 19 = some (.lload_n 1, 1) := by decide +kernel
theorem c27_20 : mc_cd 27 20 = some (.lcmp, 1) := by decide +kernel
theorem c27_21 : mc_cd 27 21 = some (.ifCond .ne 5, 3) := by decide +kernel
theorem c27_24 : mc_cd 27 24 = some (.iload_n 3, 1) := by decide +kernel
theorem c27_25 : mc_cd 27 25 = some (.ireturn, 1) := by decide +kernel
theorem c27_26 : mc_cd 27 26 = some (.iinc 3 1, 3) := by decide +kernel
theorem c27_29 : mc_cd 27 29 = some (.goto (-27), 3) := by decide +kernel
theorem c27_32 : mc_cd 27 32 = some (.iconst (-1), 1) := by decide +kernel
theorem c27_33 : mc_cd 27 33 = some (.ireturn, 1) := by decide +kernel
abbrev q_27 (r0 : Nat) (a1 : Int) (T : wq_T) (H : wq_H) : Option Value → wq_T → wq_H → Prop := fun r T' H' => T = T' ∧ H = H' ∧ ∃ z : Int, some (vI z) = r ∧ ((-1) ≤ z ∧ z ≤ 5)
set_option maxHeartbeats 4000000 in
theorem s_27 {kt : Nat → Option mc_E} {T : wq_T} {H : wq_H} {r0 : Nat} {a1 : Int} (hW : WT T H) (g0 : T.2.2.2 r0 = some 27) (i1 : (-9223372036854775808) ≤ a1 ∧ a1 ≤ 9223372036854775807) : wpc kt 1 27 [.ref r0, vL a1] T H (q_27 r0 a1 T H) := by
  refine wp_enter e27 (Nat.le_of_ble_eq_true rfl) rfl ?_
  show wp _ _ 27 0 [(0, .ref r0), (1, vL a1)] [] _ H _
  refine wp_of e27 c27_0 (rw_iconst (pc' := 1) rfl ?_)
  refine wp_of e27 c27_1 (rw_istore_n (pc' := 2) (z := 0) (L' := [(3, vI 0), (0, .ref r0), (1, vL a1)]) rfl rfl rfl ?_)
  have lp8556 : ∀ (n8557 : Nat) (v8559 : Int), (0 ≤ v8559 ∧ v8559 ≤ 6) → (6 - v8559).toNat = n8557 → wp kt 0 27 2 [(3, vI v8559), (0, .ref r0), (1, vL a1)] [] T H (q_27 r0 a1 T H) := by
    intro n8557
    induction n8557 using Nat.strongRecOn with
    | _ n8557 ih8558 =>
      intro v8559 b8562 m8563
      refine wp_of e27 c27_2 (rw_iload_n (pc' := 3) (z := v8559) rfl rfl ?_)
      refine wp_of e27 c27_3 (rw_aload_n (pc' := 4) (v := .ref r0) rfl rfl rfl ?_)
      refine wp_of e27 c27_4 (xg_I (pc' := 7) lf_7_50 hW g0 sh_27 (by decide) (by decide) ty_27_10 rfl rfl (fun b8564 b8565 => ?_))
      refine wp_of e27 c27_7 (rw_icmp_ge (p1 := 32) (p2 := 10) (by decide) rfl ⟨by omega, by omega⟩ ⟨by omega, by omega⟩ (fun c8566 => ?_) (fun c8566 => ?_))
      · refine wp_of e27 c27_32 (rw_iconst (pc' := 33) rfl ?_)
        exact wp_ireturn e27 c27_33 rfl ⟨rfl, rfl, -1, rfl, ⟨by omega, by omega⟩⟩
      · refine wp_of e27 c27_10 (rw_aload_n (pc' := 11) (v := .ref r0) rfl rfl rfl ?_)
        refine wp_of e27 c27_11 (xg_R (pc' := 14) lf_7_11 hW g0 sh_27 (by decide) (by decide) ty_27_0 rfl rfl (fun r8567 q8568 g8569 => ?_))
        refine wp_of e27 c27_14 (rw_iload_n (pc' := 15) (z := v8559) rfl rfl ?_)
        refine wp_of e27 c27_15 (xa_R (pc' := 16) (by decide) hW g8569 sh_28 (by decide) (ty_28 _) (by omega) (by omega) rfl (fun r8570 q8571 g8572 => ?_))
        refine wp_of e27 c27_16 (xg_L (pc' := 19) lf_7_86 hW g8572 sh_35 (by decide) (by decide) ty_35_6 rfl rfl (fun b8573 b8574 => ?_))
        refine wp_of e27 c27_19 (rw_lload_n (pc' := 20) (z := a1) rfl rfl ?_)
        refine wp_of e27 c27_20 (rw_lcmp (pc' := 21) rfl ⟨by omega, by omega⟩ ⟨by omega, by omega⟩ ?_)
        have b8575 := wq_cmp_b (H r8570 6) a1
        refine wp_of e27 c27_21 (rw_if_ne (p1 := 26) (p2 := 24) (by decide) rfl ⟨by omega, by omega⟩ (fun c8576 => ?_) (fun c8576 => ?_))
        · refine wp_of e27 c27_26 (rw_iinc (pc' := 29) (z := v8559) (L' := [(3, vI (v8559 + 1)), (0, .ref r0), (1, vL a1)]) rfl rfl rfl rfl ?_)
          refine wp_of e27 c27_29 (rw_goto (p1 := 2) (by decide) ?_)
          exact wp_lc (ks := [3, 0, 1]) (wl_c rfl (wl_c rfl (wl_c rfl wl_n))) rfl (by decide) (ih8558 _ (by omega) (v8559 + 1) ⟨by omega, by omega⟩ rfl)
        · refine wp_of e27 c27_24 (rw_iload_n (pc' := 25) (z := v8559) rfl rfl ?_)
          exact wp_ireturn e27 c27_25 rfl ⟨rfl, rfl, v8559, rfl, ⟨by omega, by omega⟩⟩
  exact wp_lc (ks := [3, 0, 1]) (wl_c rfl (wl_c rfl (wl_c rfl wl_n))) rfl (by decide) (lp8556 _ 0 ⟨by omega, by omega⟩ rfl)
/-! StrikeAwake$Person.clear(J)V -/
theorem e28 : wq_en 28 = some (8, 3, false, none) := rfl
theorem c28_0 : mc_cd 28 0 = some (.aload_n 0, 1) := by decide +kernel
theorem c28_1 : mc_cd 28 1 = some (.lload_n 1, 1) := by decide +kernel
theorem c28_2 : mc_cd 28 2 = some (.putfield 31, 3) := by decide +kernel
theorem c28_5 : mc_cd 28 5 = some (.aload_n 0, 1) := by decide +kernel
theorem c28_6 : mc_cd 28 6 = some (.iconst (-1), 1) := by decide +kernel
theorem c28_7 : mc_cd 28 7 = some (.putfield 35, 3) := by decide +kernel
theorem c28_10 : mc_cd 28 10 = some (.aload_n 0, 1) := by decide +kernel
theorem c28_11 : mc_cd 28 11 = some (.iconst 0, 1) := by decide +kernel
theorem c28_12 : mc_cd 28 12 = some (.putfield 39, 3) := by decide +kernel
theorem c28_15 : mc_cd 28 15 = some (.aload_n 0, 1) := by decide +kernel
theorem c28_16 : mc_cd 28 16 = some (.iconst 0, 1) := by decide +kernel
theorem c28_17 : mc_cd 28 17 = some (.putfield 42, 3) := by decide +kernel
theorem c28_20 : mc_cd 28 20 = some (.aload_n 0, 1) := by decide +kernel
theorem c28_21 : mc_cd 28 21 = some (.iconst 0, 1) := by decide +kernel
theorem c28_22 : mc_cd 28 22 = some (.putfield 46, 3) := by decide +kernel
theorem c28_25 : mc_cd 28 25 = some (.aload_n 0, 1) := by decide +kernel
theorem c28_26 : mc_cd 28 26 = some (.iconst 0, 1) := by decide +kernel
theorem c28_27 : mc_cd 28 27 = some (.putfield 49, 3) := by decide +kernel
theorem c28_30 : mc_cd 28 30 = some (.aload_n 0, 1) := by decide +kernel
theorem c28_31 : mc_cd 28 31 = some (.iconst 0, 1) := by decide +kernel
theorem c28_32 : mc_cd 28 32 = some (.putfield 52, 3) := by decide +kernel
theorem c28_35 : mc_cd 28 35 = some (.aload_n 0, 1) := by decide +kernel
theorem c28_36 : mc_cd 28 36 = some (.iconst 0, 1) := by decide +kernel
theorem c28_37 : mc_cd 28 37 = some (.putfield 55, 3) := by decide +kernel
theorem c28_40 : mc_cd 28 40 = some (.return_, 1) := by decide +kernel
abbrev q_28 (r0 : Nat) (a1 : Int) (T : wq_T) (H : wq_H) : Option Value → wq_T → wq_H → Prop := fun r T' H' => T = T' ∧ WT T H' ∧ wfr [(35, 6), (35, 11), (35, 12), (35, 13), (35, 14), (35, 15), (35, 16), (35, 17)] T H H' ∧ none = r
set_option maxHeartbeats 4000000 in
theorem s_28 {kt : Nat → Option mc_E} {T : wq_T} {H : wq_H} {r0 : Nat} {a1 : Int} (hW : WT T H) (g0 : T.2.2.2 r0 = some 35) (i1 : (-9223372036854775808) ≤ a1 ∧ a1 ≤ 9223372036854775807) : wpc kt 1 28 [.ref r0, vL a1] T H (q_28 r0 a1 T H) := by
  refine wp_enter e28 (Nat.le_of_ble_eq_true rfl) rfl ?_
  have f0 : wfr [(35, 6), (35, 11), (35, 12), (35, 13), (35, 14), (35, 15), (35, 16), (35, 17)] T H H := wfr.rf
  show wp _ _ 28 0 [(0, .ref r0), (1, vL a1)] [] _ H _
  refine wp_of e28 c28_0 (rw_aload_n (pc' := 1) (v := .ref r0) rfl rfl rfl ?_)
  refine wp_of e28 c28_1 (rw_lload_n (pc' := 2) (z := a1) rfl rfl ?_)
  refine wp_of e28 c28_2 (xp_L (pc' := 5) lf_8_31 hW g0 sh_35 (by decide) (by decide) ty_35_6 rfl rfl (by omega) (by omega) ⟨by omega, by omega⟩ rfl (fun H8617 e8618 w8619 => ?_))
  have f8620 := f0.put' e8618 g0 rfl
  have k8621 : H8617 r0 6 = a1 := wq_u_s e8618
  refine wp_of e28 c28_5 (rw_aload_n (pc' := 6) (v := .ref r0) rfl rfl rfl ?_)
  refine wp_of e28 c28_6 (rw_iconst (pc' := 7) rfl ?_)
  refine wp_of e28 c28_7 (xp_I (pc' := 10) lf_8_35 w8619 g0 sh_35 (by decide) (by decide) ty_35_11 rfl rfl (by omega) (by omega) ⟨by omega, by omega⟩ rfl (fun H8622 e8623 w8624 => ?_))
  have f8625 := f8620.put' e8623 g0 rfl
  have k8626 : H8622 r0 11 = -1 := wq_u_s e8623
  refine wp_of e28 c28_10 (rw_aload_n (pc' := 11) (v := .ref r0) rfl rfl rfl ?_)
  refine wp_of e28 c28_11 (rw_iconst (pc' := 12) rfl ?_)
  refine wp_of e28 c28_12 (xp_I (pc' := 15) lf_8_39 w8624 g0 sh_35 (by decide) (by decide) ty_35_12 rfl rfl (by omega) (by omega) ⟨by omega, by omega⟩ rfl (fun H8627 e8628 w8629 => ?_))
  have f8630 := f8625.put' e8628 g0 rfl
  have k8631 : H8627 r0 12 = 0 := wq_u_s e8628
  refine wp_of e28 c28_15 (rw_aload_n (pc' := 16) (v := .ref r0) rfl rfl rfl ?_)
  refine wp_of e28 c28_16 (rw_iconst (pc' := 17) rfl ?_)
  refine wp_of e28 c28_17 (xp_Z (pc' := 20) lf_8_42 w8629 g0 sh_35 (by decide) (by decide) ty_35_13 rfl rfl (by omega) (by omega) rfl (fun H8632 e8633 w8634 => ?_))
  have f8635 := f8630.put' e8633 g0 rfl
  have k8636 : H8632 r0 13 = 0 := wq_u_s e8633
  refine wp_of e28 c28_20 (rw_aload_n (pc' := 21) (v := .ref r0) rfl rfl rfl ?_)
  refine wp_of e28 c28_21 (rw_iconst (pc' := 22) rfl ?_)
  refine wp_of e28 c28_22 (xp_I (pc' := 25) lf_8_46 w8634 g0 sh_35 (by decide) (by decide) ty_35_14 rfl rfl (by omega) (by omega) ⟨by omega, by omega⟩ rfl (fun H8637 e8638 w8639 => ?_))
  have f8640 := f8635.put' e8638 g0 rfl
  have k8641 : H8637 r0 14 = 0 := wq_u_s e8638
  refine wp_of e28 c28_25 (rw_aload_n (pc' := 26) (v := .ref r0) rfl rfl rfl ?_)
  refine wp_of e28 c28_26 (rw_iconst (pc' := 27) rfl ?_)
  refine wp_of e28 c28_27 (xp_I (pc' := 30) lf_8_49 w8639 g0 sh_35 (by decide) (by decide) ty_35_15 rfl rfl (by omega) (by omega) ⟨by omega, by omega⟩ rfl (fun H8642 e8643 w8644 => ?_))
  have f8645 := f8640.put' e8643 g0 rfl
  have k8646 : H8642 r0 15 = 0 := wq_u_s e8643
  refine wp_of e28 c28_30 (rw_aload_n (pc' := 31) (v := .ref r0) rfl rfl rfl ?_)
  refine wp_of e28 c28_31 (rw_iconst (pc' := 32) rfl ?_)
  refine wp_of e28 c28_32 (xp_I (pc' := 35) lf_8_52 w8644 g0 sh_35 (by decide) (by decide) ty_35_16 rfl rfl (by omega) (by omega) ⟨by omega, by omega⟩ rfl (fun H8647 e8648 w8649 => ?_))
  have f8650 := f8645.put' e8648 g0 rfl
  have k8651 : H8647 r0 16 = 0 := wq_u_s e8648
  refine wp_of e28 c28_35 (rw_aload_n (pc' := 36) (v := .ref r0) rfl rfl rfl ?_)
  refine wp_of e28 c28_36 (rw_iconst (pc' := 37) rfl ?_)
  refine wp_of e28 c28_37 (xp_I (pc' := 40) lf_8_55 w8649 g0 sh_35 (by decide) (by decide) ty_35_17 rfl rfl (by omega) (by omega) ⟨by omega, by omega⟩ rfl (fun H8652 e8653 w8654 => ?_))
  have f8655 := f8650.put' e8653 g0 rfl
  have k8656 : H8652 r0 17 = 0 := wq_u_s e8653
  exact wp_return e28 c28_40 rfl ⟨rfl, w8654, f8655, rfl⟩
/-! StrikeAwake$Reader.takesRange(IIII)Z -/
theorem e29 : wq_en 29 = some (1, 5, false, some FieldType.boolean) := rfl
theorem c29_0 : mc_cd 29 0 = some (.aload_n 0, 1) := by decide +kernel
theorem c29_1 : mc_cd 29 1 = some (.aload_n 0, 1) := by decide +kernel
theorem c29_2 : mc_cd 29 2 = some (.iconst 0, 1) := by decide +kernel
theorem c29_3 : mc_cd 29 3 = some (.iload_n 1, 1) := by decide +kernel
theorem c29_4 : mc_cd 29 4 = some (.invokevirtual 119, 3) := by decide +kernel
theorem c29_7 : mc_cd 29 7 = some (.putfield 158, 3) := by decide +kernel
theorem c29_10 : mc_cd 29 10 = some (.aload_n 0, 1) := by decide +kernel
theorem c29_11 : mc_cd 29 11 = some (.getfield 158, 3) := by decide +kernel
theorem c29_14 : mc_cd 29 14 = some (.ifCond .lt 13, 3) := by decide +kernel
theorem c29_17 : mc_cd 29 17 = some (.aload_n 0, 1) := by decide +kernel
theorem c29_18 : mc_cd 29 18 = some (.ldc_w 262, 3) := by decide +kernel
theorem c29_21 : mc_cd 29 21 = some (.invokevirtual 115, 3) := by decide +kernel
theorem c29_24 : mc_cd 29 24 = some (.ifCond .ne 5, 3) := by decide +kernel
theorem c29_27 : mc_cd 29 27 = some (.iconst 0, 1) := by decide +kernel
theorem c29_28 : mc_cd 29 28 = some (.ireturn, 1) := by decide +kernel
theorem c29_29 : mc_cd 29 29 = some (.aload_n 0, 1) := by decide +kernel
theorem c29_30 : mc_cd 29 30 = some (.aload_n 0, 1) := by decide +kernel
theorem c29_31 : mc_cd 29 31 = some (.aload_n 0, 1) := by decide +kernel
theorem c29_32 : mc_cd 29 32 = some (.getfield 158, 3) := by decide +kernel
theorem c29_35 : mc_cd 29 35 = some (.iload_n 2, 1) := by decide +kernel
theorem c29_36 : mc_cd 29 36 = some (.iadd, 1) := by decide +kernel
theorem c29_37 : mc_cd 29 37 = some (.aload_n 0, 1) := by decide +kernel
theorem c29_38 : mc_cd 29 38 = some (.getfield 158, 3) := by decide +kernel
theorem c29_41 : mc_cd 29 41 = some (.iload_n 3, 1) := by decide +kernel
theorem c29_42 : mc_cd 29 42 = some (.iadd, 1) := by decide +kernel
theorem c29_43 : mc_cd 29 43 = some (.iload 4, 2) := by decide +kernel
theorem c29_45 : mc_cd 29 45 = some (.invokestatic 263, 3) := by decide +kernel
theorem c29_48 : mc_cd 29 48 = some (.invokevirtual 119, 3) := by decide +kernel
theorem c29_51 : mc_cd 29 51 = some (.putfield 164, 3) := by decide +kernel
theorem c29_54 : mc_cd 29 54 = some (.aload_n 0, 1) := by decide +kernel
theorem c29_55 : mc_cd 29 55 = some (.getfield 164, 3) := by decide +kernel
theorem c29_58 : mc_cd 29 58 = some (.ifCond .lt 7, 3) := by decide +kernel
theorem c29_61 : mc_cd 29 61 = some (.iconst 1, 1) := by decide +kernel
theorem c29_62 : mc_cd 29 62 = some (.goto 4, 3) := by decide +kernel
theorem c29_65 : mc_cd 29 65 = some (.iconst 0, 1) := by decide +kernel
theorem c29_66 : mc_cd 29 66 = some (.ireturn, 1) := by decide +kernel
abbrev q_29 (r0 : Nat) (a1 : Int) (a2 : Int) (a3 : Int) (a4 : Int) (tk : Nat) (rb : Nat) (T : wq_T) (H : wq_H) : Option Value → wq_T → wq_H → Prop := fun r T' H' => T = T' ∧ WT T H' ∧ wfr [(3, 1), (3, 2), (3, 3), (3, 4), (4, 2), (4, 3), (4, 4), (4, 5), (4, 6)] T H H' ∧ ∃ z : Int, some (vI z) = r ∧ (0 ≤ z ∧ z ≤ 1)
set_option maxHeartbeats 4000000 in
theorem s_29 {kt : Nat → Option mc_E} {T : wq_T} {H : wq_H} {r0 : Nat} {a1 : Int} {a2 : Int} {a3 : Int} {a4 : Int} {tk : Nat} {rb : Nat} (hW : WT T H) (g0 : T.2.2.2 r0 = some 3) (i1 : 0 ≤ a1 ∧ a1 ≤ 23) (i2 : 0 ≤ a2 ∧ a2 ≤ 1) (i3 : 0 ≤ a3 ∧ a3 ≤ 24) (i4 : 0 ≤ a4 ∧ a4 ≤ 24) (qtk : H r0 0 = (tk : Int)) (gtk : T.2.2.2 tk = some 4) (qrb : H tk 0 = (rb : Int)) (grb : T.2.2.2 rb = some 2) : wpc kt 3 29 [.ref r0, vI a1, vI a2, vI a3, vI a4] T H (q_29 r0 a1 a2 a3 a4 tk rb T H) := by
  refine wp_enter e29 (Nat.le_of_ble_eq_true rfl) rfl ?_
  have f0 : wfr [(3, 1), (3, 2), (3, 3), (3, 4), (4, 2), (4, 3), (4, 4), (4, 5), (4, 6)] T H H := wfr.rf
  show wp _ _ 29 0 [(0, .ref r0), (1, vI a1), (2, vI a2), (3, vI a3), (4, vI a4)] [] _ H _
  refine wp_of e29 c29_0 (rw_aload_n (pc' := 1) (v := .ref r0) rfl rfl rfl ?_)
  refine wp_of e29 c29_1 (rw_aload_n (pc' := 2) (v := .ref r0) rfl rfl rfl ?_)
  refine wp_of e29 c29_2 (rw_iconst (pc' := 3) rfl ?_)
  refine wp_of e29 c29_3 (rw_iload_n (pc' := 4) (z := a1) rfl rfl ?_)
  refine wp_of e29 c29_4 (xc_V (pc' := 7) (r := r0) (as := [vI 0, vI a1]) (st := [.ref r0]) (lm_1_119) rfl rfl (Nat.le_of_ble_eq_true rfl) hW g0 sh_3 (by decide) rfl (by decide) (s_24 hW g0 ⟨by omega, by omega⟩ ⟨by omega, by omega⟩ qtk gtk qrb grb) (fun R8724 T8725 H8726 p8727 => ?_))
  obtain ⟨e8728, w8730, f8731, z8733, e8729, b8734, p8732⟩ := p8727
  subst e8728
  subst e8729
  have f8735 := f0.tr f8731 rfl
  show wp _ _ 29 7 [(0, .ref r0), (1, vI a1), (2, vI a2), (3, vI a3), (4, vI a4)] [vI z8733, .ref r0] _ H8726 _
  refine wp_of e29 c29_7 (xp_I (pc' := 10) lf_1_158 w8730 g0 sh_3 (by decide) (by decide) ty_3_1 rfl rfl (by omega) (by omega) ⟨by omega, by omega⟩ rfl (fun H8736 e8737 w8738 => ?_))
  have f8739 := f8735.put' e8737 g0 rfl
  have k8740 : H8736 r0 1 = z8733 := wq_u_s e8737
  refine wp_of e29 c29_10 (rw_aload_n (pc' := 11) (v := .ref r0) rfl rfl rfl ?_)
  refine wp_of e29 c29_11 (xg_I (pc' := 14) lf_1_158 w8738 g0 sh_3 (by decide) (by decide) ty_3_1 rfl rfl (fun b8741 b8742 => ?_))
  refine wp_of e29 c29_14 (rw_if_lt (p1 := 27) (p2 := 17) (by decide) rfl ⟨by omega, by omega⟩ (fun c8743 => ?_) (fun c8743 => ?_))
  · refine wp_of e29 c29_27 (rw_iconst (pc' := 28) rfl ?_)
    exact wp_zreturn e29 c29_28 rfl (by omega) ⟨rfl, w8738, f8739, 0, rfl, ⟨by omega, by omega⟩⟩
  · refine wp_of e29 c29_17 (rw_aload_n (pc' := 18) (v := .ref r0) rfl rfl rfl ?_)
    refine wp_of e29 c29_18 (rw_ldc_wS (pc' := 21) (k := 68) rfl rfl rfl rfl ?_)
    have k8744 : H8736 r0 0 = H r0 0 := ((wq_u_j e8737 rfl).trans (f8731 r0 0 _ g0 rfl))
    have q8745 : H8736 r0 0 = (tk : Int) := k8744.trans qtk
    have k8746 : H8736 tk 0 = H tk 0 := ((wq_u_t e8737 g0 gtk rfl 0).trans (f8731 tk 0 _ gtk rfl))
    have q8747 : H8736 tk 0 = (rb : Int) := k8746.trans qrb
    refine wp_of e29 c29_21 (xc_V (pc' := 24) (r := r0) (as := [.ref 68]) (st := []) (lm_1_115) rfl rfl (Nat.le_of_ble_eq_true rfl) w8738 g0 sh_3 (by decide) rfl (by decide) (s_23 w8738 g0 rfl q8745 gtk q8747 grb) (fun R8748 T8749 H8750 p8751 => ?_))
    obtain ⟨e8752, w8754, f8755, z8756, e8753, b8757⟩ := p8751
    subst e8752
    subst e8753
    have f8758 := f8739.tr f8755 rfl
    show wp _ _ 29 24 [(0, .ref r0), (1, vI a1), (2, vI a2), (3, vI a3), (4, vI a4)] [vI z8756] _ H8750 _
    refine wp_of e29 c29_24 (rw_if_ne (p1 := 29) (p2 := 27) (by decide) rfl ⟨by omega, by omega⟩ (fun c8759 => ?_) (fun c8759 => ?_))
    · refine wp_of e29 c29_29 (rw_aload_n (pc' := 30) (v := .ref r0) rfl rfl rfl ?_)
      refine wp_of e29 c29_30 (rw_aload_n (pc' := 31) (v := .ref r0) rfl rfl rfl ?_)
      refine wp_of e29 c29_31 (rw_aload_n (pc' := 32) (v := .ref r0) rfl rfl rfl ?_)
      have k8760 : H8750 r0 1 = H8736 r0 1 := (f8755 r0 1 _ g0 rfl)
      refine wp_of e29 c29_32 (xg_I (pc' := 35) lf_1_158 w8754 g0 sh_3 (by decide) (by decide) ty_3_1 rfl rfl (fun b8761 b8762 => ?_))
      refine wp_of e29 c29_35 (rw_iload_n (pc' := 36) (z := a2) rfl rfl ?_)
      refine wp_of e29 c29_36 (rw_iadd (pc' := 37) rfl ?_)
      refine wp_of e29 c29_37 (rw_aload_n (pc' := 38) (v := .ref r0) rfl rfl rfl ?_)
      refine wp_of e29 c29_38 (xg_I (pc' := 41) lf_1_158 w8754 g0 sh_3 (by decide) (by decide) ty_3_1 rfl rfl (fun b8763 b8764 => ?_))
      refine wp_of e29 c29_41 (rw_iload_n (pc' := 42) (z := a3) rfl rfl ?_)
      refine wp_of e29 c29_42 (rw_iadd (pc' := 43) rfl ?_)
      refine wp_of e29 c29_43 (rw_iload (pc' := 45) (z := a4) rfl rfl ?_)
      refine wp_of e29 c29_45 (rw_math2 (pc' := 48) (z := min ((H8750 r0 1) + a3) a4) rfl rfl ⟨by omega, by omega⟩ ⟨by omega, by omega⟩ (Or.inl ⟨rfl, rfl⟩) (Nat.le_of_ble_eq_true rfl) rfl ?_)
      obtain ⟨v8765, e8766⟩ : ∃ x : Int, x = min ((H8750 r0 1) + a3) a4 := ⟨_, rfl⟩
      rw [← e8766]
      have b8767 : v8765 = ((H8750 r0 1) + a3) ∨ v8765 = a4 := by
        rw [e8766]
        omega
      have b8768 : v8765 ≤ ((H8750 r0 1) + a3) ∧ v8765 ≤ a4 := by
        rw [e8766]
        omega
      have k8769 : H8750 r0 0 = H8736 r0 0 := (f8755 r0 0 _ g0 rfl)
      have q8770 : H8750 r0 0 = (tk : Int) := k8769.trans q8745
      have k8771 : H8750 tk 0 = H8736 tk 0 := (f8755 tk 0 _ gtk rfl)
      have q8772 : H8750 tk 0 = (rb : Int) := k8771.trans q8747
      refine wp_of e29 c29_48 (xc_V (pc' := 51) (r := r0) (as := [vI ((H8750 r0 1) + a2), vI v8765]) (st := [.ref r0]) (lm_1_119) rfl rfl (Nat.le_of_ble_eq_true rfl) w8754 g0 sh_3 (by decide) rfl (by decide) (s_24 w8754 g0 ⟨by omega, by omega⟩ ⟨by omega, by omega⟩ q8770 gtk q8772 grb) (fun R8773 T8774 H8775 p8776 => ?_))
      obtain ⟨e8777, w8779, f8780, z8782, e8778, b8783, p8781⟩ := p8776
      subst e8777
      subst e8778
      have f8784 := f8758.tr f8780 rfl
      show wp _ _ 29 51 [(0, .ref r0), (1, vI a1), (2, vI a2), (3, vI a3), (4, vI a4)] [vI z8782, .ref r0] _ H8775 _
      refine wp_of e29 c29_51 (xp_I (pc' := 54) lf_1_164 w8779 g0 sh_3 (by decide) (by decide) ty_3_2 rfl rfl (by omega) (by omega) ⟨by omega, by omega⟩ rfl (fun H8785 e8786 w8787 => ?_))
      have f8788 := f8784.put' e8786 g0 rfl
      have k8789 : H8785 r0 2 = z8782 := wq_u_s e8786
      refine wp_of e29 c29_54 (rw_aload_n (pc' := 55) (v := .ref r0) rfl rfl rfl ?_)
      refine wp_of e29 c29_55 (xg_I (pc' := 58) lf_1_164 w8787 g0 sh_3 (by decide) (by decide) ty_3_2 rfl rfl (fun b8790 b8791 => ?_))
      refine wp_of e29 c29_58 (rw_if_lt (p1 := 65) (p2 := 61) (by decide) rfl ⟨by omega, by omega⟩ (fun c8792 => ?_) (fun c8792 => ?_))
      · refine wp_of e29 c29_65 (rw_iconst (pc' := 66) rfl ?_)
        exact wp_zreturn e29 c29_66 rfl (by omega) ⟨rfl, w8787, f8788, 0, rfl, ⟨by omega, by omega⟩⟩
      · refine wp_of e29 c29_61 (rw_iconst (pc' := 62) rfl ?_)
        refine wp_of e29 c29_62 (rw_goto (p1 := 66) (by decide) ?_)
        exact wp_zreturn e29 c29_66 rfl (by omega) ⟨rfl, w8787, f8788, 1, rfl, ⟨by omega, by omega⟩⟩
    · refine wp_of e29 c29_27 (rw_iconst (pc' := 28) rfl ?_)
      exact wp_zreturn e29 c29_28 rfl (by omega) ⟨rfl, w8754, f8758, 0, rfl, ⟨by omega, by omega⟩⟩
/-! StrikeAwake$Reader.readsPerson(LStrikeAwake$Parish;)Z -/
theorem e25 : wq_en 25 = some (1, 3, false, some FieldType.boolean) := rfl
theorem c25_0 : mc_cd 25 0 = some (.aload_n 0, 1) := by decide +kernel
theorem c25_1 : mc_cd 25 1 = some (.invokevirtual 131, 3) := by decide +kernel
theorem c25_4 : mc_cd 25 4 = some (.ifCond .ne 9, 3) := by decide +kernel
theorem c25_7 : mc_cd 25 7 = some (.aload_n 0, 1) := by decide +kernel
theorem c25_8 : mc_cd 25 8 = some (.iconst 1, 1) := by decide +kernel
theorem c25_9 : mc_cd 25 9 = some (.invokevirtual 47, 3) := by decide +kernel
theorem c25_12 : mc_cd 25 12 = some (.ireturn, 1) := by decide +kernel
theorem c25_13 : mc_cd 25 13 = some (.aload_n 1, 1) := by decide +kernel
theorem c25_14 : mc_cd 25 14 = some (.aload_n 0, 1) := by decide +kernel
theorem c25_15 : mc_cd 25 15 = some (.getfield 12, 3) := by decide +kernel
theorem c25_18 : mc_cd 25 18 = some (.getfield 135, 3) := by decide +kernel
theorem c25_21 : mc_cd 25 21 = some (.invokevirtual 139, 3) := by decide +kernel
theorem c25_24 : mc_cd 25 24 = some (.ifCond .lt 9, 3) := by decide +kernel
theorem c25_27 : mc_cd 25 27 = some (.aload_n 0, 1) := by decide +kernel
theorem c25_28 : mc_cd 25 28 = some (.iconst 3, 1) := by decide +kernel
theorem c25_29 : mc_cd 25 29 = some (.invokevirtual 47, 3) := by decide +kernel
theorem c25_32 : mc_cd 25 32 = some (.ireturn, 1) := by decide +kernel
theorem c25_33 : mc_cd 25 33 = some (.aload_n 1, 1) := by decide +kernel
theorem c25_34 : mc_cd 25 34 = some (.getfield 143, 3) := by decide +kernel
theorem c25_37 : mc_cd 25 37 = some (.aload_n 1, 1) := by decide +kernel
theorem c25_38 : mc_cd 25 38 = some (.getfield 44, 3) := by decide +kernel
theorem c25_41 : mc_cd 25 41 = some (.aaload, 1) := by decide +kernel
theorem c25_42 : mc_cd 25 42 = some (.astore_n 2, 1) := by decide +kernel
theorem c25_43 : mc_cd 25 43 = some (.aload_n 2, 1) := by decide +kernel
theorem c25_44 : mc_cd 25 44 = some (.aload_n 0, 1) := by decide +kernel
theorem c25_45 : mc_cd 25 45 = some (.getfield 12, 3) := by decide +kernel
theorem c25_48 : mc_cd 25 48 = some (.getfield 135, 3) := by decide +kernel
theorem c25_51 : mc_cd 25 51 = some (.invokevirtual 147, 3) := by decide +kernel
theorem c25_54 : mc_cd 25 54 = some (.aload_n 0, 1) := by decide +kernel
theorem c25_55 : mc_cd 25 55 = some (.getfield 12, 3) := by decide +kernel
theorem c25_58 : mc_cd 25 58 = some (.invokevirtual 74, 3) := by decide +kernel
theorem c25_61 : mc_cd 25 61 = some (.aload_n 0, 1) := by decide +kernel
theorem c25_62 : mc_cd 25 62 = some (.ldc 152, 2) := by decide +kernel
theorem c25_64 : mc_cd 25 64 = some (.invokevirtual 115, 3) := by decide +kernel
theorem c25_67 : mc_cd 25 67 = some (.ifCond .eq 17, 3) := by decide +kernel
theorem c25_70 : mc_cd 25 70 = some (.aload_n 0, 1) := by decide +kernel
theorem c25_71 : mc_cd 25 71 = some (.bipush 23, 2) := by decide +kernel
theorem c25_73 : mc_cd 25 73 = some (.iconst 0, 1) := by decide +kernel
theorem c25_74 : mc_cd 25 74 = some (.bipush 7, 2) := by decide +kernel
theorem c25_76 : mc_cd 25 76 = some (.bipush 23, 2) := by decide +kernel
theorem c25_78 : mc_cd 25 78 = some (.invokevirtual 154, 3) := by decide +kernel
theorem c25_81 : mc_cd 25 81 = some (.ifCond .ne 5, 3) := by decide +kernel
theorem c25_84 : mc_cd 25 84 = some (.iconst 0, 1) := by decide +kernel
theorem c25_85 : mc_cd 25 85 = some (.ireturn, 1) := by decide +kernel
theorem c25_86 : mc_cd 25 86 = some (.aload_n 2, 1) := by decide +kernel
theorem c25_87 : mc_cd 25 87 = some (.aload_n 0, 1) := by decide +kernel
theorem c25_88 : mc_cd 25 88 = some (.getfield 158, 3) := by decide +kernel
theorem c25_91 : mc_cd 25 91 = some (.putfield 161, 3) := by decide +kernel
theorem c25_94 : mc_cd 25 94 = some (.aload_n 2, 1) := by decide +kernel
theorem c25_95 : mc_cd 25 95 = some (.aload_n 0, 1) := by decide +kernel
theorem c25_96 : mc_cd 25 96 = some (.getfield 164, 3) := by decide +kernel
theorem c25_99 : mc_cd 25 99 = some (.putfield 167, 3) := by decide +kernel
theorem c25_102 : mc_cd 25 102 = some (.aload_n 0, 1) := by decide +kernel
theorem c25_103 : mc_cd 25 103 = some (.ldc 170, 2) := by decide +kernel
theorem c25_105 : mc_cd 25 105 = some (.invokevirtual 115, 3) := by decide +kernel
theorem c25_108 : mc_cd 25 108 = some (.ifCond .eq 16, 3) := by decide +kernel
theorem c25_111 : mc_cd 25 111 = some (.aload_n 0, 1) := by decide +kernel
theorem c25_112 : mc_cd 25 112 = some (.bipush 12, 2) := by decide +kernel
theorem c25_114 : mc_cd 25 114 = some (.iconst 0, 1) := by decide +kernel
theorem c25_115 : mc_cd 25 115 = some (.iconst 4, 1) := by decide +kernel
theorem c25_116 : mc_cd 25 116 = some (.bipush 12, 2) := by decide +kernel
theorem c25_118 : mc_cd 25 118 = some (.invokevirtual 154, 3) := by decide +kernel
theorem c25_121 : mc_cd 25 121 = some (.ifCond .ne 5, 3) := by decide +kernel
theorem c25_124 : mc_cd 25 124 = some (.iconst 0, 1) := by decide +kernel
theorem c25_125 : mc_cd 25 125 = some (.ireturn, 1) := by decide +kernel
theorem c25_126 : mc_cd 25 126 = some (.aload_n 2, 1) := by decide +kernel
theorem c25_127 : mc_cd 25 127 = some (.aload_n 0, 1) := by decide +kernel
theorem c25_128 : mc_cd 25 128 = some (.getfield 158, 3) := by decide +kernel
theorem c25_131 : mc_cd 25 131 = some (.putfield 172, 3) := by decide +kernel
theorem c25_134 : mc_cd 25 134 = some (.aload_n 2, 1) := by decide +kernel
theorem c25_135 : mc_cd 25 135 = some (.aload_n 0, 1) := by decide +kernel
theorem c25_136 : mc_cd 25 136 = some (.getfield 164, 3) := by decide +kernel
theorem c25_139 : mc_cd 25 139 = some (.putfield 175, 3) := by decide +kernel
theorem c25_142 : mc_cd 25 142 = some (.iconst 1, 1) := by decide +kernel
theorem c25_143 : mc_cd 25 143 = some (.ireturn, 1) := by decide +kernel
abbrev q_25 (r0 : Nat) (r1 : Nat) (tk : Nat) (rb : Nat) (T : wq_T) (H : wq_H) : Option Value → wq_T → wq_H → Prop := fun r T' H' => T = T' ∧ WT T H' ∧ wfr [(35, 6), (35, 7), (35, 8), (35, 9), (35, 10), (35, 11), (35, 12), (35, 13), (35, 14), (35, 15), (35, 16), (35, 17), (3, 1), (3, 2), (3, 3), (3, 4), (4, 2), (4, 3), (4, 4), (4, 5), (4, 6)] T H H' ∧ ∃ z : Int, some (vI z) = r ∧ (0 ≤ z ∧ z ≤ 1)
set_option maxHeartbeats 4000000 in
theorem s_25 {kt : Nat → Option mc_E} {T : wq_T} {H : wq_H} {r0 : Nat} {r1 : Nat} {tk : Nat} {rb : Nat} (hW : WT T H) (g0 : T.2.2.2 r0 = some 3) (g1 : T.2.2.2 r1 = some 27) (qtk : H r0 0 = (tk : Int)) (gtk : T.2.2.2 tk = some 4) (qrb : H tk 0 = (rb : Int)) (grb : T.2.2.2 rb = some 2) (p0 : H r1 10 ≤ 5) : wpc kt 4 25 [.ref r0, .ref r1] T H (q_25 r0 r1 tk rb T H) := by
  refine wp_enter e25 (Nat.le_of_ble_eq_true rfl) rfl ?_
  have f0 : wfr [(35, 6), (35, 7), (35, 8), (35, 9), (35, 10), (35, 11), (35, 12), (35, 13), (35, 14), (35, 15), (35, 16), (35, 17), (3, 1), (3, 2), (3, 3), (3, 4), (4, 2), (4, 3), (4, 4), (4, 5), (4, 6)] T H H := wfr.rf
  show wp _ _ 25 0 [(0, .ref r0), (1, .ref r1)] [] _ H _
  refine wp_of e25 c25_0 (rw_aload_n (pc' := 1) (v := .ref r0) rfl rfl rfl ?_)
  refine wp_of e25 c25_1 (xc_V (pc' := 4) (r := r0) (as := []) (st := []) (lm_1_131) rfl rfl (Nat.le_of_ble_eq_true rfl) hW g0 sh_3 (by decide) rfl (by decide) (s_26 hW g0) (fun R8961 T8962 H8963 p8964 => ?_))
  obtain ⟨e8965, e8967, z8968, e8966, b8969⟩ := p8964
  subst e8965
  subst e8966
  subst e8967
  show wp _ _ 25 4 [(0, .ref r0), (1, .ref r1)] [vI z8968] _ H _
  refine wp_of e25 c25_4 (rw_if_ne (p1 := 13) (p2 := 7) (by decide) rfl ⟨by omega, by omega⟩ (fun c8970 => ?_) (fun c8970 => ?_))
  · refine wp_of e25 c25_13 (rw_aload_n (pc' := 14) (v := .ref r1) rfl rfl rfl ?_)
    refine wp_of e25 c25_14 (rw_aload_n (pc' := 15) (v := .ref r0) rfl rfl rfl ?_)
    refine wp_of e25 c25_15 (xg_K (pc' := 18) lf_1_12 hW g0 sh_3 (by decide) (by decide) rfl qtk rfl ?_)
    refine wp_of e25 c25_18 (xg_L (pc' := 21) lf_1_135 hW gtk sh_4 (by decide) (by decide) ty_4_6 rfl rfl (fun b8971 b8972 => ?_))
    refine wp_of e25 c25_21 (xc_V (pc' := 24) (r := r1) (as := [vL (H tk 6)]) (st := []) (lm_1_139) rfl rfl (Nat.le_of_ble_eq_true rfl) hW g1 sh_27 (by decide) rfl (by decide) (s_27 hW g1 ⟨by omega, by omega⟩) (fun R8973 T8974 H8975 p8976 => ?_))
    obtain ⟨e8977, e8979, z8980, e8978, b8981⟩ := p8976
    subst e8977
    subst e8978
    subst e8979
    show wp _ _ 25 24 [(0, .ref r0), (1, .ref r1)] [vI z8980] _ H _
    refine wp_of e25 c25_24 (rw_if_lt (p1 := 33) (p2 := 27) (by decide) rfl ⟨by omega, by omega⟩ (fun c8982 => ?_) (fun c8982 => ?_))
    · refine wp_of e25 c25_33 (rw_aload_n (pc' := 34) (v := .ref r1) rfl rfl rfl ?_)
      refine wp_of e25 c25_34 (xg_R (pc' := 37) lf_1_143 hW g1 sh_27 (by decide) (by decide) ty_27_0 rfl rfl (fun r8983 q8984 g8985 => ?_))
      refine wp_of e25 c25_37 (rw_aload_n (pc' := 38) (v := .ref r1) rfl rfl rfl ?_)
      refine wp_of e25 c25_38 (xg_I (pc' := 41) lf_1_44 hW g1 sh_27 (by decide) (by decide) ty_27_10 rfl rfl (fun b8986 b8987 => ?_))
      refine wp_of e25 c25_41 (xa_R (pc' := 42) (by decide) hW g8985 sh_28 (by decide) (ty_28 _) (by omega) (by omega) rfl (fun r8988 q8989 g8990 => ?_))
      refine wp_of e25 c25_42 (rw_astore_n (pc' := 43) (v := .ref r8988) (L' := [(2, .ref r8988), (0, .ref r0), (1, .ref r1)]) rfl rfl rfl rfl ?_)
      refine wp_of e25 c25_43 (rw_aload_n (pc' := 44) (v := .ref r8988) rfl rfl rfl ?_)
      refine wp_of e25 c25_44 (rw_aload_n (pc' := 45) (v := .ref r0) rfl rfl rfl ?_)
      refine wp_of e25 c25_45 (xg_K (pc' := 48) lf_1_12 hW g0 sh_3 (by decide) (by decide) rfl qtk rfl ?_)
      refine wp_of e25 c25_48 (xg_L (pc' := 51) lf_1_135 hW gtk sh_4 (by decide) (by decide) ty_4_6 rfl rfl (fun b8991 b8992 => ?_))
      refine wp_of e25 c25_51 (xc_V (pc' := 54) (r := r8988) (as := [vL (H tk 6)]) (st := []) (lm_1_147) rfl rfl (Nat.le_of_ble_eq_true rfl) hW g8990 sh_35 (by decide) rfl (by decide) (s_28 hW g8990 ⟨by omega, by omega⟩) (fun R8993 T8994 H8995 p8996 => ?_))
      obtain ⟨e8997, w8999, f9000, e8998⟩ := p8996
      subst e8997
      subst e8998
      have f9001 := f0.tr f9000 rfl
      show wp _ _ 25 54 [(2, .ref r8988), (0, .ref r0), (1, .ref r1)] [] _ H8995 _
      refine wp_of e25 c25_54 (rw_aload_n (pc' := 55) (v := .ref r0) rfl rfl rfl ?_)
      have k9002 : H8995 r0 0 = H r0 0 := (f9000 r0 0 _ g0 rfl)
      have q9003 : H8995 r0 0 = (tk : Int) := k9002.trans qtk
      refine wp_of e25 c25_55 (xg_K (pc' := 58) lf_1_12 w8999 g0 sh_3 (by decide) (by decide) rfl q9003 rfl ?_)
      have k9004 : H8995 tk 0 = H tk 0 := (f9000 tk 0 _ gtk rfl)
      have q9005 : H8995 tk 0 = (rb : Int) := k9004.trans qrb
      refine wp_of e25 c25_58 (xc_V (pc' := 61) (r := tk) (as := []) (st := []) (lm_1_74) rfl rfl (Nat.le_of_ble_eq_true rfl) w8999 gtk sh_4 (by decide) rfl (by decide) (s_16 w8999 gtk q9005 grb) (fun R9006 T9007 H9008 p9009 => ?_))
      obtain ⟨e9010, w9012, f9013, e9011⟩ := p9009
      subst e9010
      subst e9011
      have f9014 := f9001.tr f9013 rfl
      show wp _ _ 25 61 [(2, .ref r8988), (0, .ref r0), (1, .ref r1)] [] _ H9008 _
      refine wp_of e25 c25_61 (rw_aload_n (pc' := 62) (v := .ref r0) rfl rfl rfl ?_)
      refine wp_of e25 c25_62 (rw_ldcS (pc' := 64) (k := 67) rfl rfl rfl rfl ?_)
      have k9015 : H9008 r0 0 = H8995 r0 0 := (f9013 r0 0 _ g0 rfl)
      have q9016 : H9008 r0 0 = (tk : Int) := k9015.trans q9003
      have k9017 : H9008 tk 0 = H8995 tk 0 := (f9013 tk 0 _ gtk rfl)
      have q9018 : H9008 tk 0 = (rb : Int) := k9017.trans q9005
      refine wp_of e25 c25_64 (xc_V (pc' := 67) (r := r0) (as := [.ref 67]) (st := []) (lm_1_115) rfl rfl (Nat.le_of_ble_eq_true rfl) w9012 g0 sh_3 (by decide) rfl (by decide) (s_23 w9012 g0 rfl q9016 gtk q9018 grb) (fun R9019 T9020 H9021 p9022 => ?_))
      obtain ⟨e9023, w9025, f9026, z9027, e9024, b9028⟩ := p9022
      subst e9023
      subst e9024
      have f9029 := f9014.tr f9026 rfl
      show wp _ _ 25 67 [(2, .ref r8988), (0, .ref r0), (1, .ref r1)] [vI z9027] _ H9021 _
      refine wp_of e25 c25_67 (rw_if_eq (p1 := 84) (p2 := 70) (by decide) rfl ⟨by omega, by omega⟩ (fun c9030 => ?_) (fun c9030 => ?_))
      · refine wp_of e25 c25_84 (rw_iconst (pc' := 85) rfl ?_)
        exact wp_zreturn e25 c25_85 rfl (by omega) ⟨rfl, w9025, f9029, 0, rfl, ⟨by omega, by omega⟩⟩
      · refine wp_of e25 c25_70 (rw_aload_n (pc' := 71) (v := .ref r0) rfl rfl rfl ?_)
        refine wp_of e25 c25_71 (rw_bipush (pc' := 73) (z := 23) rfl (by decide) ?_)
        refine wp_of e25 c25_73 (rw_iconst (pc' := 74) rfl ?_)
        refine wp_of e25 c25_74 (rw_bipush (pc' := 76) (z := 7) rfl (by decide) ?_)
        refine wp_of e25 c25_76 (rw_bipush (pc' := 78) (z := 23) rfl (by decide) ?_)
        have k9031 : H9021 r0 0 = H9008 r0 0 := (f9026 r0 0 _ g0 rfl)
        have q9032 : H9021 r0 0 = (tk : Int) := k9031.trans q9016
        have k9033 : H9021 tk 0 = H9008 tk 0 := (f9026 tk 0 _ gtk rfl)
        have q9034 : H9021 tk 0 = (rb : Int) := k9033.trans q9018
        refine wp_of e25 c25_78 (xc_V (pc' := 81) (r := r0) (as := [vI 23, vI 0, vI 7, vI 23]) (st := []) (lm_1_154) rfl rfl (Nat.le_of_ble_eq_true rfl) w9025 g0 sh_3 (by decide) rfl (by decide) (s_29 w9025 g0 ⟨by omega, by omega⟩ ⟨by omega, by omega⟩ ⟨by omega, by omega⟩ ⟨by omega, by omega⟩ q9032 gtk q9034 grb) (fun R9035 T9036 H9037 p9038 => ?_))
        obtain ⟨e9039, w9041, f9042, z9043, e9040, b9044⟩ := p9038
        subst e9039
        subst e9040
        have f9045 := f9029.tr f9042 rfl
        show wp _ _ 25 81 [(2, .ref r8988), (0, .ref r0), (1, .ref r1)] [vI z9043] _ H9037 _
        refine wp_of e25 c25_81 (rw_if_ne (p1 := 86) (p2 := 84) (by decide) rfl ⟨by omega, by omega⟩ (fun c9046 => ?_) (fun c9046 => ?_))
        · refine wp_of e25 c25_86 (rw_aload_n (pc' := 87) (v := .ref r8988) rfl rfl rfl ?_)
          refine wp_of e25 c25_87 (rw_aload_n (pc' := 88) (v := .ref r0) rfl rfl rfl ?_)
          refine wp_of e25 c25_88 (xg_I (pc' := 91) lf_1_158 w9041 g0 sh_3 (by decide) (by decide) ty_3_1 rfl rfl (fun b9047 b9048 => ?_))
          refine wp_of e25 c25_91 (xp_I (pc' := 94) lf_1_161 w9041 g8990 sh_35 (by decide) (by decide) ty_35_7 rfl rfl (by omega) (by omega) ⟨by omega, by omega⟩ rfl (fun H9049 e9050 w9051 => ?_))
          have f9052 := f9045.put' e9050 g8990 rfl
          have k9053 : H9049 r8988 7 = H9037 r0 1 := wq_u_s e9050
          refine wp_of e25 c25_94 (rw_aload_n (pc' := 95) (v := .ref r8988) rfl rfl rfl ?_)
          refine wp_of e25 c25_95 (rw_aload_n (pc' := 96) (v := .ref r0) rfl rfl rfl ?_)
          refine wp_of e25 c25_96 (xg_I (pc' := 99) lf_1_164 w9051 g0 sh_3 (by decide) (by decide) ty_3_2 rfl rfl (fun b9054 b9055 => ?_))
          refine wp_of e25 c25_99 (xp_I (pc' := 102) lf_1_167 w9051 g8990 sh_35 (by decide) (by decide) ty_35_8 rfl rfl (by omega) (by omega) ⟨by omega, by omega⟩ rfl (fun H9056 e9057 w9058 => ?_))
          have f9059 := f9052.put' e9057 g8990 rfl
          have k9060 : H9056 r8988 8 = H9049 r0 2 := wq_u_s e9057
          refine wp_of e25 c25_102 (rw_aload_n (pc' := 103) (v := .ref r0) rfl rfl rfl ?_)
          refine wp_of e25 c25_103 (rw_ldcS (pc' := 105) (k := 69) rfl rfl rfl rfl ?_)
          have k9061 : H9056 r0 0 = H9021 r0 0 := ((wq_u_t e9057 g8990 g0 rfl 0).trans ((wq_u_t e9050 g8990 g0 rfl 0).trans (f9042 r0 0 _ g0 rfl)))
          have q9062 : H9056 r0 0 = (tk : Int) := k9061.trans q9032
          have k9063 : H9056 tk 0 = H9021 tk 0 := ((wq_u_t e9057 g8990 gtk rfl 0).trans ((wq_u_t e9050 g8990 gtk rfl 0).trans (f9042 tk 0 _ gtk rfl)))
          have q9064 : H9056 tk 0 = (rb : Int) := k9063.trans q9034
          refine wp_of e25 c25_105 (xc_V (pc' := 108) (r := r0) (as := [.ref 69]) (st := []) (lm_1_115) rfl rfl (Nat.le_of_ble_eq_true rfl) w9058 g0 sh_3 (by decide) rfl (by decide) (s_23 w9058 g0 rfl q9062 gtk q9064 grb) (fun R9065 T9066 H9067 p9068 => ?_))
          obtain ⟨e9069, w9071, f9072, z9073, e9070, b9074⟩ := p9068
          subst e9069
          subst e9070
          have f9075 := f9059.tr f9072 rfl
          show wp _ _ 25 108 [(2, .ref r8988), (0, .ref r0), (1, .ref r1)] [vI z9073] _ H9067 _
          refine wp_of e25 c25_108 (rw_if_eq (p1 := 124) (p2 := 111) (by decide) rfl ⟨by omega, by omega⟩ (fun c9076 => ?_) (fun c9076 => ?_))
          · refine wp_of e25 c25_124 (rw_iconst (pc' := 125) rfl ?_)
            exact wp_zreturn e25 c25_125 rfl (by omega) ⟨rfl, w9071, f9075, 0, rfl, ⟨by omega, by omega⟩⟩
          · refine wp_of e25 c25_111 (rw_aload_n (pc' := 112) (v := .ref r0) rfl rfl rfl ?_)
            refine wp_of e25 c25_112 (rw_bipush (pc' := 114) (z := 12) rfl (by decide) ?_)
            refine wp_of e25 c25_114 (rw_iconst (pc' := 115) rfl ?_)
            refine wp_of e25 c25_115 (rw_iconst (pc' := 116) rfl ?_)
            refine wp_of e25 c25_116 (rw_bipush (pc' := 118) (z := 12) rfl (by decide) ?_)
            have k9077 : H9067 r0 0 = H9056 r0 0 := (f9072 r0 0 _ g0 rfl)
            have q9078 : H9067 r0 0 = (tk : Int) := k9077.trans q9062
            have k9079 : H9067 tk 0 = H9056 tk 0 := (f9072 tk 0 _ gtk rfl)
            have q9080 : H9067 tk 0 = (rb : Int) := k9079.trans q9064
            refine wp_of e25 c25_118 (xc_V (pc' := 121) (r := r0) (as := [vI 12, vI 0, vI 4, vI 12]) (st := []) (lm_1_154) rfl rfl (Nat.le_of_ble_eq_true rfl) w9071 g0 sh_3 (by decide) rfl (by decide) (s_29 w9071 g0 ⟨by omega, by omega⟩ ⟨by omega, by omega⟩ ⟨by omega, by omega⟩ ⟨by omega, by omega⟩ q9078 gtk q9080 grb) (fun R9081 T9082 H9083 p9084 => ?_))
            obtain ⟨e9085, w9087, f9088, z9089, e9086, b9090⟩ := p9084
            subst e9085
            subst e9086
            have f9091 := f9075.tr f9088 rfl
            show wp _ _ 25 121 [(2, .ref r8988), (0, .ref r0), (1, .ref r1)] [vI z9089] _ H9083 _
            refine wp_of e25 c25_121 (rw_if_ne (p1 := 126) (p2 := 124) (by decide) rfl ⟨by omega, by omega⟩ (fun c9092 => ?_) (fun c9092 => ?_))
            · refine wp_of e25 c25_126 (rw_aload_n (pc' := 127) (v := .ref r8988) rfl rfl rfl ?_)
              refine wp_of e25 c25_127 (rw_aload_n (pc' := 128) (v := .ref r0) rfl rfl rfl ?_)
              refine wp_of e25 c25_128 (xg_I (pc' := 131) lf_1_158 w9087 g0 sh_3 (by decide) (by decide) ty_3_1 rfl rfl (fun b9093 b9094 => ?_))
              refine wp_of e25 c25_131 (xp_I (pc' := 134) lf_1_172 w9087 g8990 sh_35 (by decide) (by decide) ty_35_9 rfl rfl (by omega) (by omega) ⟨by omega, by omega⟩ rfl (fun H9095 e9096 w9097 => ?_))
              have f9098 := f9091.put' e9096 g8990 rfl
              have k9099 : H9095 r8988 9 = H9083 r0 1 := wq_u_s e9096
              refine wp_of e25 c25_134 (rw_aload_n (pc' := 135) (v := .ref r8988) rfl rfl rfl ?_)
              refine wp_of e25 c25_135 (rw_aload_n (pc' := 136) (v := .ref r0) rfl rfl rfl ?_)
              refine wp_of e25 c25_136 (xg_I (pc' := 139) lf_1_164 w9097 g0 sh_3 (by decide) (by decide) ty_3_2 rfl rfl (fun b9100 b9101 => ?_))
              refine wp_of e25 c25_139 (xp_I (pc' := 142) lf_1_175 w9097 g8990 sh_35 (by decide) (by decide) ty_35_10 rfl rfl (by omega) (by omega) ⟨by omega, by omega⟩ rfl (fun H9102 e9103 w9104 => ?_))
              have f9105 := f9098.put' e9103 g8990 rfl
              have k9106 : H9102 r8988 10 = H9095 r0 2 := wq_u_s e9103
              refine wp_of e25 c25_142 (rw_iconst (pc' := 143) rfl ?_)
              exact wp_zreturn e25 c25_143 rfl (by omega) ⟨rfl, w9104, f9105, 1, rfl, ⟨by omega, by omega⟩⟩
            · refine wp_of e25 c25_124 (rw_iconst (pc' := 125) rfl ?_)
              exact wp_zreturn e25 c25_125 rfl (by omega) ⟨rfl, w9087, f9091, 0, rfl, ⟨by omega, by omega⟩⟩
        · refine wp_of e25 c25_84 (rw_iconst (pc' := 85) rfl ?_)
          exact wp_zreturn e25 c25_85 rfl (by omega) ⟨rfl, w9041, f9045, 0, rfl, ⟨by omega, by omega⟩⟩
    · refine wp_of e25 c25_27 (rw_aload_n (pc' := 28) (v := .ref r0) rfl rfl rfl ?_)
      refine wp_of e25 c25_28 (rw_iconst (pc' := 29) rfl ?_)
      refine wp_of e25 c25_29 (xc_V (pc' := 32) (r := r0) (as := [vI 3]) (st := []) (lm_1_47) rfl rfl (Nat.le_of_ble_eq_true rfl) hW g0 sh_3 (by decide) rfl (by decide) (s_20 hW g0 ⟨by omega, by omega⟩) (fun R9107 T9108 H9109 p9110 => ?_))
      obtain ⟨e9111, w9113, f9114, z9115, e9112, b9116⟩ := p9110
      subst e9111
      subst e9112
      have f9117 := f0.tr f9114 rfl
      show wp _ _ 25 32 [(0, .ref r0), (1, .ref r1)] [vI z9115] _ H9109 _
      exact wp_zreturn e25 c25_32 rfl (by omega) ⟨rfl, w9113, f9117, z9115, rfl, ⟨by omega, by omega⟩⟩
  · refine wp_of e25 c25_7 (rw_aload_n (pc' := 8) (v := .ref r0) rfl rfl rfl ?_)
    refine wp_of e25 c25_8 (rw_iconst (pc' := 9) rfl ?_)
    refine wp_of e25 c25_9 (xc_V (pc' := 12) (r := r0) (as := [vI 1]) (st := []) (lm_1_47) rfl rfl (Nat.le_of_ble_eq_true rfl) hW g0 sh_3 (by decide) rfl (by decide) (s_20 hW g0 ⟨by omega, by omega⟩) (fun R9118 T9119 H9120 p9121 => ?_))
    obtain ⟨e9122, w9124, f9125, z9126, e9123, b9127⟩ := p9121
    subst e9122
    subst e9123
    have f9128 := f0.tr f9125 rfl
    show wp _ _ 25 12 [(0, .ref r0), (1, .ref r1)] [vI z9126] _ H9120 _
    exact wp_zreturn e25 c25_12 rfl (by omega) ⟨rfl, w9124, f9128, z9126, rfl, ⟨by omega, by omega⟩⟩
/-! StrikeAwake.hourBits(II)I -/
theorem e31 : wq_en 31 = some (0, 2, false, some FieldType.int) := rfl
theorem c31_0 : mc_cd 31 0 = some (.lconst 1, 1) := by decide +kernel
theorem c31_1 : mc_cd 31 1 = some (.iload_n 1, 1) := by decide +kernel
theorem c31_2 : mc_cd 31 2 = some (.lshl, 1) := by decide +kernel
theorem c31_3 : mc_cd 31 3 = some (.lconst 1, 1) := by decide +kernel
theorem c31_4 : mc_cd 31 4 = some (.iload_n 0, 1) := by decide +kernel
theorem c31_5 : mc_cd 31 5 = some (.lshl, 1) := by decide +kernel
theorem c31_6 : mc_cd 31 6 = some (.lsub, 1) := by decide +kernel
theorem c31_7 : mc_cd 31 7 = some (.l2i, 1) := by decide +kernel
theorem c31_8 : mc_cd 31 8 = some (.ldc_w 350, 3) := by decide +kernel
theorem c31_11 : mc_cd 31 11 = some (.iand, 1) := by decide +kernel
theorem c31_12 : mc_cd 31 12 = some (.ireturn, 1) := by decide +kernel
abbrev q_31 (a0 : Int) (a1 : Int) (T : wq_T) (H : wq_H) : Option Value → wq_T → wq_H → Prop := fun r T' H' => T = T' ∧ H = H' ∧ ∃ z : Int, some (vI z) = r ∧ ((-2147483648) ≤ z ∧ z ≤ 2147483647)
set_option maxHeartbeats 4000000 in
theorem s_31 {kt : Nat → Option mc_E} {T : wq_T} {H : wq_H} {a0 : Int} {a1 : Int} (hW : WT T H) (i0 : (-2147483648) ≤ a0 ∧ a0 ≤ 2147483647) (i1 : (-2147483648) ≤ a1 ∧ a1 ≤ 2147483647) : wpc kt 1 31 [vI a0, vI a1] T H (q_31 a0 a1 T H) := by
  refine wp_enter e31 (Nat.le_of_ble_eq_true rfl) rfl ?_
  show wp _ _ 31 0 [(0, vI a0), (1, vI a1)] [] _ H _
  refine wp_of e31 c31_0 (rw_lconst (pc' := 1) (z := 1) rfl rfl ?_)
  refine wp_of e31 c31_1 (rw_iload_n (pc' := 2) (z := a1) rfl rfl ?_)
  refine wp_of e31 c31_2 (rw_lshl (pc' := 3) rfl ?_)
  obtain ⟨v9139, e9140⟩ : ∃ x : Int, x = wl_shl 1 a1 := ⟨_, rfl⟩
  rw [← e9140]
  have b9141 : -9223372036854775808 ≤ v9139 ∧ v9139 ≤ 9223372036854775807 := by
    rw [e9140]
    exact wL_shl _ _
  refine wp_of e31 c31_3 (rw_lconst (pc' := 4) (z := 1) rfl rfl ?_)
  refine wp_of e31 c31_4 (rw_iload_n (pc' := 5) (z := a0) rfl rfl ?_)
  refine wp_of e31 c31_5 (rw_lshl (pc' := 6) rfl ?_)
  obtain ⟨v9142, e9143⟩ : ∃ x : Int, x = wl_shl 1 a0 := ⟨_, rfl⟩
  rw [← e9143]
  have b9144 : -9223372036854775808 ≤ v9142 ∧ v9142 ≤ 9223372036854775807 := by
    rw [e9143]
    exact wL_shl _ _
  refine wp_of e31 c31_6 (rw_lsubw (pc' := 7) rfl ?_)
  obtain ⟨v9145, e9146⟩ : ∃ x : Int, x = wl_w (v9139 - v9142) := ⟨_, rfl⟩
  rw [← e9146]
  have b9147 : -9223372036854775808 ≤ v9145 ∧ v9145 ≤ 9223372036854775807 := by
    rw [e9146]
    exact wL_w _
  refine wp_of e31 c31_7 (rw_l2i (pc' := 8) rfl ?_)
  obtain ⟨v9148, e9149⟩ : ∃ x : Int, x = wq_w v9145 := ⟨_, rfl⟩
  rw [← e9149]
  have b9150 : -2147483648 ≤ v9148 ∧ v9148 ≤ 2147483647 := by
    rw [e9149]
    exact wI_w _
  have b9151 : (-2147483648 ≤ v9145 ∧ v9145 ≤ 2147483647) → v9148 = v9145 := by
    rw [e9149]
    exact fun h => wq_w_id h
  refine wp_of e31 c31_8 (rw_ldc_wI (pc' := 11) (z := 16777215) rfl rfl rfl ?_)
  refine wp_of e31 c31_11 (rw_iand (pc' := 12) rfl ?_)
  obtain ⟨v9152, e9153⟩ : ∃ x : Int, x = wq_and v9148 16777215 := ⟨_, rfl⟩
  rw [← e9153]
  have b9154 : 0 ≤ v9152 ∧ v9152 ≤ 16777215 := by
    rw [e9153]
    exact wq_and_b _ (by omega) (by omega)
  exact wp_ireturn e31 c31_12 rfl ⟨rfl, rfl, v9152, rfl, ⟨by omega, by omega⟩⟩
/-! StrikeAwake$Reader.readsCustoms(LStrikeAwake$Parish;)Z -/
theorem e30 : wq_en 30 = some (1, 3, false, some FieldType.boolean) := rfl
theorem c30_0 : mc_cd 30 0 = some (.aload_n 1, 1) := by decide +kernel
theorem c30_1 : mc_cd 30 1 = some (.getfield 143, 3) := by decide +kernel
theorem c30_4 : mc_cd 30 4 = some (.aload_n 1, 1) := by decide +kernel
theorem c30_5 : mc_cd 30 5 = some (.getfield 44, 3) := by decide +kernel
theorem c30_8 : mc_cd 30 8 = some (.aaload, 1) := by decide +kernel
theorem c30_9 : mc_cd 30 9 = some (.astore_n 2, 1) := by decide +kernel
theorem c30_10 : mc_cd 30 10 = some (.aload_n 0, 1) := by decide +kernel
theorem c30_11 : mc_cd 30 11 = some (.getfield 12, 3) := by decide +kernel
theorem c30_14 : mc_cd 30 14 = some (.getstatic 178, 3) := by decide +kernel
theorem c30_17 : mc_cd 30 17 = some (.getfield 181, 3) := by decide +kernel
theorem c30_20 : mc_cd 30 20 = some (.invokevirtual 185, 3) := by decide +kernel
theorem c30_23 : mc_cd 30 23 = some (.ifCond .eq 30, 3) := by decide +kernel
theorem c30_26 : mc_cd 30 26 = some (.aload_n 0, 1) := by decide +kernel
theorem c30_27 : mc_cd 30 27 = some (.getfield 12, 3) := by decide +kernel
theorem c30_30 : mc_cd 30 30 = some (.invokevirtual 74, 3) := by decide +kernel
theorem c30_33 : mc_cd 30 33 = some (.aload_n 2, 1) := by decide +kernel
theorem c30_34 : mc_cd 30 34 = some (.aload_n 0, 1) := by decide +kernel
theorem c30_35 : mc_cd 30 35 = some (.iconst 0, 1) := by decide +kernel
theorem c30_36 : mc_cd 30 36 = some (.bipush 23, 2) := by decide +kernel
theorem c30_38 : mc_cd 30 38 = some (.invokevirtual 119, 3) := by decide +kernel
theorem c30_41 : mc_cd 30 41 = some (.putfield 188, 3) := by decide +kernel
theorem c30_44 : mc_cd 30 44 = some (.aload_n 2, 1) := by decide +kernel
theorem c30_45 : mc_cd 30 45 = some (.getfield 188, 3) := by decide +kernel
theorem c30_48 : mc_cd 30 48 = some (.ifCond .ge 5, 3) := by decide +kernel
theorem c30_51 : mc_cd 30 51 = some (.iconst 0, 1) := by decide +kernel
theorem c30_52 : mc_cd 30 52 = some (.ireturn, 1) := by decide +kernel
theorem c30_53 : mc_cd 30 53 = some (.aload_n 0, 1) := by decide +kernel
theorem c30_54 : mc_cd 30 54 = some (.getfield 12, 3) := by decide +kernel
theorem c30_57 : mc_cd 30 57 = some (.getstatic 191, 3) := by decide +kernel
theorem c30_60 : mc_cd 30 60 = some (.getfield 181, 3) := by decide +kernel
theorem c30_63 : mc_cd 30 63 = some (.invokevirtual 185, 3) := by decide +kernel
theorem c30_66 : mc_cd 30 66 = some (.ifCond .eq 41, 3) := by decide +kernel
theorem c30_69 : mc_cd 30 69 = some (.aload_n 0, 1) := by decide +kernel
theorem c30_70 : mc_cd 30 70 = some (.getfield 12, 3) := by decide +kernel
theorem c30_73 : mc_cd 30 73 = some (.invokevirtual 74, 3) := by decide +kernel
theorem c30_76 : mc_cd 30 76 = some (.aload_n 0, 1) := by decide +kernel
theorem c30_77 : mc_cd 30 77 = some (.bipush 23, 2) := by decide +kernel
theorem c30_79 : mc_cd 30 79 = some (.iconst 1, 1) := by decide +kernel
theorem c30_80 : mc_cd 30 80 = some (.bipush 24, 2) := by decide +kernel
theorem c30_82 : mc_cd 30 82 = some (.bipush 24, 2) := by decide +kernel
theorem c30_84 : mc_cd 30 84 = some (.invokevirtual 154, 3) := by decide +kernel
theorem c30_87 : mc_cd 30 87 = some (.ifCond .ne 5, 3) := by decide +kernel
theorem c30_90 : mc_cd 30 90 = some (.iconst 0, 1) := by decide +kernel
theorem c30_91 : mc_cd 30 91 = some (.ireturn, 1) := by decide +kernel
theorem c30_92 : mc_cd 30 92 = some (.aload_n 2, 1) := by decide +kernel
theorem c30_93 : mc_cd 30 93 = some (.aload_n 0, 1) := by decide +kernel
theorem c30_94 : mc_cd 30 94 = some (.getfield 158, 3) := by decide +kernel
theorem c30_97 : mc_cd 30 97 = some (.aload_n 0, 1) := by decide +kernel
theorem c30_98 : mc_cd 30 98 = some (.getfield 164, 3) := by decide +kernel
theorem c30_101 : mc_cd 30 101 = some (.invokestatic 194, 3) := by decide +kernel
theorem c30_104 : mc_cd 30 104 = some (.putfield 197, 3) := by decide +kernel
theorem c30_107 : mc_cd 30 107 = some (.aload_n 0, 1) := by decide +kernel
theorem c30_108 : mc_cd 30 108 = some (.getfield 12, 3) := by decide +kernel
theorem c30_111 : mc_cd 30 111 = some (.getstatic 200, 3) := by decide +kernel
theorem c30_114 : mc_cd 30 114 = some (.getfield 181, 3) := by decide +kernel
theorem c30_117 : mc_cd 30 117 = some (.invokevirtual 185, 3) := by decide +kernel
theorem c30_120 : mc_cd 30 120 = some (.ifCond .eq 15, 3) := by decide +kernel
theorem c30_123 : mc_cd 30 123 = some (.aload_n 0, 1) := by decide +kernel
theorem c30_124 : mc_cd 30 124 = some (.getfield 12, 3) := by decide +kernel
theorem c30_127 : mc_cd 30 127 = some (.invokevirtual 74, 3) := by decide +kernel
theorem c30_130 : mc_cd 30 130 = some (.aload_n 2, 1) := by decide +kernel
theorem c30_131 : mc_cd 30 131 = some (.iconst 1, 1) := by decide +kernel
theorem c30_132 : mc_cd 30 132 = some (.putfield 203, 3) := by decide +kernel
theorem c30_135 : mc_cd 30 135 = some (.aload_n 1, 1) := by decide +kernel
theorem c30_136 : mc_cd 30 136 = some (.dup, 1) := by decide +kernel
theorem c30_137 : mc_cd 30 137 = some (.getfield 44, 3) := by decide +kernel
theorem c30_140 : mc_cd 30 140 = some (.iconst 1, 1) := by decide +kernel
theorem c30_141 : mc_cd 30 141 = some (.iadd, 1) := by decide +kernel
theorem c30_142 : mc_cd 30 142 = some (.putfield 44, 3) := by decide +kernel
theorem c30_145 : mc_cd 30 145 = some (.iconst 1, 1) := by decide +kernel
theorem c30_146 : mc_cd 30 146 = some (.ireturn, 1) := by decide +kernel
abbrev q_30 (r0 : Nat) (r1 : Nat) (tk : Nat) (rb : Nat) (T : wq_T) (H : wq_H) : Option Value → wq_T → wq_H → Prop := fun r T' H' => T = T' ∧ WT T H' ∧ wfr [(27, 10), (35, 11), (35, 12), (35, 13), (3, 1), (3, 2), (3, 3), (3, 4), (4, 2), (4, 3), (4, 4), (4, 5), (4, 6)] T H H' ∧ ∃ z : Int, some (vI z) = r ∧ (0 ≤ z ∧ z ≤ 1)
set_option maxHeartbeats 4000000 in
theorem s_30 {kt : Nat → Option mc_E} {T : wq_T} {H : wq_H} {r0 : Nat} {r1 : Nat} {tk : Nat} {rb : Nat} (hW : WT T H) (g0 : T.2.2.2 r0 = some 3) (g1 : T.2.2.2 r1 = some 27) (qtk : H r0 0 = (tk : Int)) (gtk : T.2.2.2 tk = some 4) (qrb : H tk 0 = (rb : Int)) (grb : T.2.2.2 rb = some 2) (p0 : H r1 10 ≤ 5) : wpc kt 4 30 [.ref r0, .ref r1] T H (q_30 r0 r1 tk rb T H) := by
  refine wp_enter e30 (Nat.le_of_ble_eq_true rfl) rfl ?_
  have f0 : wfr [(27, 10), (35, 11), (35, 12), (35, 13), (3, 1), (3, 2), (3, 3), (3, 4), (4, 2), (4, 3), (4, 4), (4, 5), (4, 6)] T H H := wfr.rf
  show wp _ _ 30 0 [(0, .ref r0), (1, .ref r1)] [] _ H _
  refine wp_of e30 c30_0 (rw_aload_n (pc' := 1) (v := .ref r1) rfl rfl rfl ?_)
  refine wp_of e30 c30_1 (xg_R (pc' := 4) lf_1_143 hW g1 sh_27 (by decide) (by decide) ty_27_0 rfl rfl (fun r9492 q9493 g9494 => ?_))
  refine wp_of e30 c30_4 (rw_aload_n (pc' := 5) (v := .ref r1) rfl rfl rfl ?_)
  refine wp_of e30 c30_5 (xg_I (pc' := 8) lf_1_44 hW g1 sh_27 (by decide) (by decide) ty_27_10 rfl rfl (fun b9495 b9496 => ?_))
  refine wp_of e30 c30_8 (xa_R (pc' := 9) (by decide) hW g9494 sh_28 (by decide) (ty_28 _) (by omega) (by omega) rfl (fun r9497 q9498 g9499 => ?_))
  refine wp_of e30 c30_9 (rw_astore_n (pc' := 10) (v := .ref r9497) (L' := [(2, .ref r9497), (0, .ref r0), (1, .ref r1)]) rfl rfl rfl rfl ?_)
  refine wp_of e30 c30_10 (rw_aload_n (pc' := 11) (v := .ref r0) rfl rfl rfl ?_)
  refine wp_of e30 c30_11 (xg_K (pc' := 14) lf_1_12 hW g0 sh_3 (by decide) (by decide) rfl qtk rfl ?_)
  refine wp_of e30 c30_14 (rw_gs (pc' := 17) (k := 24) rfl rfl rfl rfl ?_)
  have k9500 : H 24 0 = ((40 : Nat) : Int) := (hW.2 24 _ (hW.1.2.2 8 (by decide))).2.2 0 (by decide) |> fun z => by have z1 : (40 : Int) ≤ H 24 0 ∧ H 24 0 ≤ 40 := z; omega
  refine wp_of e30 c30_17 (rw_getR (pc' := 20) (n := 2) (b := 40) (e := _) (lf_1_181).choose_spec.1 (lf_1_181).choose_spec.2.1 (hW.sh (hW.1.2.2 8 (by decide)) rfl) (by decide) rfl k9500 rfl ?_)
  refine wp_of e30 c30_20 (xc_V (pc' := 23) (r := tk) (as := [.ref 40]) (st := []) (lm_1_185) rfl rfl (Nat.le_of_ble_eq_true rfl) hW gtk sh_4 (by decide) rfl (by decide) (s_19 hW gtk rfl) (fun R9501 T9502 H9503 p9504 => ?_))
  obtain ⟨e9505, e9507, z9508, e9506, b9509⟩ := p9504
  subst e9505
  subst e9506
  subst e9507
  show wp _ _ 30 23 [(2, .ref r9497), (0, .ref r0), (1, .ref r1)] [vI z9508] _ H _
  refine wp_of e30 c30_23 (rw_if_eq (p1 := 53) (p2 := 26) (by decide) rfl ⟨by omega, by omega⟩ (fun c9510 => ?_) (fun c9510 => ?_))
  · refine wp_of e30 c30_53 (rw_aload_n (pc' := 54) (v := .ref r0) rfl rfl rfl ?_)
    refine wp_of e30 c30_54 (xg_K (pc' := 57) lf_1_12 hW g0 sh_3 (by decide) (by decide) rfl qtk rfl ?_)
    refine wp_of e30 c30_57 (rw_gs (pc' := 60) (k := 25) rfl rfl rfl rfl ?_)
    have k9511 : H 25 0 = ((41 : Nat) : Int) := (hW.2 25 _ (hW.1.2.2 9 (by decide))).2.2 0 (by decide) |> fun z => by have z1 : (41 : Int) ≤ H 25 0 ∧ H 25 0 ≤ 41 := z; omega
    refine wp_of e30 c30_60 (rw_getR (pc' := 63) (n := 2) (b := 41) (e := _) (lf_1_181).choose_spec.1 (lf_1_181).choose_spec.2.1 (hW.sh (hW.1.2.2 9 (by decide)) rfl) (by decide) rfl k9511 rfl ?_)
    refine wp_of e30 c30_63 (xc_V (pc' := 66) (r := tk) (as := [.ref 41]) (st := []) (lm_1_185) rfl rfl (Nat.le_of_ble_eq_true rfl) hW gtk sh_4 (by decide) rfl (by decide) (s_19 hW gtk rfl) (fun R9512 T9513 H9514 p9515 => ?_))
    obtain ⟨e9516, e9518, z9519, e9517, b9520⟩ := p9515
    subst e9516
    subst e9517
    subst e9518
    show wp _ _ 30 66 [(2, .ref r9497), (0, .ref r0), (1, .ref r1)] [vI z9519] _ H _
    refine wp_of e30 c30_66 (rw_if_eq (p1 := 107) (p2 := 69) (by decide) rfl ⟨by omega, by omega⟩ (fun c9521 => ?_) (fun c9521 => ?_))
    · refine wp_of e30 c30_107 (rw_aload_n (pc' := 108) (v := .ref r0) rfl rfl rfl ?_)
      refine wp_of e30 c30_108 (xg_K (pc' := 111) lf_1_12 hW g0 sh_3 (by decide) (by decide) rfl qtk rfl ?_)
      refine wp_of e30 c30_111 (rw_gs (pc' := 114) (k := 26) rfl rfl rfl rfl ?_)
      have k9522 : H 26 0 = ((42 : Nat) : Int) := (hW.2 26 _ (hW.1.2.2 10 (by decide))).2.2 0 (by decide) |> fun z => by have z1 : (42 : Int) ≤ H 26 0 ∧ H 26 0 ≤ 42 := z; omega
      refine wp_of e30 c30_114 (rw_getR (pc' := 117) (n := 2) (b := 42) (e := _) (lf_1_181).choose_spec.1 (lf_1_181).choose_spec.2.1 (hW.sh (hW.1.2.2 10 (by decide)) rfl) (by decide) rfl k9522 rfl ?_)
      refine wp_of e30 c30_117 (xc_V (pc' := 120) (r := tk) (as := [.ref 42]) (st := []) (lm_1_185) rfl rfl (Nat.le_of_ble_eq_true rfl) hW gtk sh_4 (by decide) rfl (by decide) (s_19 hW gtk rfl) (fun R9523 T9524 H9525 p9526 => ?_))
      obtain ⟨e9527, e9529, z9530, e9528, b9531⟩ := p9526
      subst e9527
      subst e9528
      subst e9529
      show wp _ _ 30 120 [(2, .ref r9497), (0, .ref r0), (1, .ref r1)] [vI z9530] _ H _
      refine wp_of e30 c30_120 (rw_if_eq (p1 := 135) (p2 := 123) (by decide) rfl ⟨by omega, by omega⟩ (fun c9532 => ?_) (fun c9532 => ?_))
      · refine wp_of e30 c30_135 (rw_aload_n (pc' := 136) (v := .ref r1) rfl rfl rfl ?_)
        refine wp_of e30 c30_136 (rw_dup (pc' := 137) rfl rfl ?_)
        refine wp_of e30 c30_137 (xg_I (pc' := 140) lf_1_44 hW g1 sh_27 (by decide) (by decide) ty_27_10 rfl rfl (fun b9533 b9534 => ?_))
        refine wp_of e30 c30_140 (rw_iconst (pc' := 141) rfl ?_)
        refine wp_of e30 c30_141 (rw_iadd (pc' := 142) rfl ?_)
        refine wp_of e30 c30_142 (xp_I (pc' := 145) lf_1_44 hW g1 sh_27 (by decide) (by decide) ty_27_10 rfl rfl (by omega) (by omega) ⟨by omega, by omega⟩ rfl (fun H9535 e9536 w9537 => ?_))
        have f9538 := f0.put' e9536 g1 rfl
        have k9539 : H9535 r1 10 = (H r1 10) + 1 := wq_u_s e9536
        refine wp_of e30 c30_145 (rw_iconst (pc' := 146) rfl ?_)
        exact wp_zreturn e30 c30_146 rfl (by omega) ⟨rfl, w9537, f9538, 1, rfl, ⟨by omega, by omega⟩⟩
      · refine wp_of e30 c30_123 (rw_aload_n (pc' := 124) (v := .ref r0) rfl rfl rfl ?_)
        refine wp_of e30 c30_124 (xg_K (pc' := 127) lf_1_12 hW g0 sh_3 (by decide) (by decide) rfl qtk rfl ?_)
        refine wp_of e30 c30_127 (xc_V (pc' := 130) (r := tk) (as := []) (st := []) (lm_1_74) rfl rfl (Nat.le_of_ble_eq_true rfl) hW gtk sh_4 (by decide) rfl (by decide) (s_16 hW gtk qrb grb) (fun R9540 T9541 H9542 p9543 => ?_))
        obtain ⟨e9544, w9546, f9547, e9545⟩ := p9543
        subst e9544
        subst e9545
        have f9548 := f0.tr f9547 rfl
        show wp _ _ 30 130 [(2, .ref r9497), (0, .ref r0), (1, .ref r1)] [] _ H9542 _
        refine wp_of e30 c30_130 (rw_aload_n (pc' := 131) (v := .ref r9497) rfl rfl rfl ?_)
        refine wp_of e30 c30_131 (rw_iconst (pc' := 132) rfl ?_)
        refine wp_of e30 c30_132 (xp_Z (pc' := 135) lf_1_203 w9546 g9499 sh_35 (by decide) (by decide) ty_35_13 rfl rfl (by omega) (by omega) rfl (fun H9549 e9550 w9551 => ?_))
        have f9552 := f9548.put' e9550 g9499 rfl
        have k9553 : H9549 r9497 13 = 1 := wq_u_s e9550
        refine wp_of e30 c30_135 (rw_aload_n (pc' := 136) (v := .ref r1) rfl rfl rfl ?_)
        refine wp_of e30 c30_136 (rw_dup (pc' := 137) rfl rfl ?_)
        have k9554 : H9549 r1 10 = H r1 10 := ((wq_u_t e9550 g9499 g1 rfl 10).trans (f9547 r1 10 _ g1 rfl))
        refine wp_of e30 c30_137 (xg_I (pc' := 140) lf_1_44 w9551 g1 sh_27 (by decide) (by decide) ty_27_10 rfl rfl (fun b9555 b9556 => ?_))
        refine wp_of e30 c30_140 (rw_iconst (pc' := 141) rfl ?_)
        refine wp_of e30 c30_141 (rw_iadd (pc' := 142) rfl ?_)
        refine wp_of e30 c30_142 (xp_I (pc' := 145) lf_1_44 w9551 g1 sh_27 (by decide) (by decide) ty_27_10 rfl rfl (by omega) (by omega) ⟨by omega, by omega⟩ rfl (fun H9557 e9558 w9559 => ?_))
        have f9560 := f9552.put' e9558 g1 rfl
        have k9561 : H9557 r1 10 = (H9549 r1 10) + 1 := wq_u_s e9558
        refine wp_of e30 c30_145 (rw_iconst (pc' := 146) rfl ?_)
        exact wp_zreturn e30 c30_146 rfl (by omega) ⟨rfl, w9559, f9560, 1, rfl, ⟨by omega, by omega⟩⟩
    · refine wp_of e30 c30_69 (rw_aload_n (pc' := 70) (v := .ref r0) rfl rfl rfl ?_)
      refine wp_of e30 c30_70 (xg_K (pc' := 73) lf_1_12 hW g0 sh_3 (by decide) (by decide) rfl qtk rfl ?_)
      refine wp_of e30 c30_73 (xc_V (pc' := 76) (r := tk) (as := []) (st := []) (lm_1_74) rfl rfl (Nat.le_of_ble_eq_true rfl) hW gtk sh_4 (by decide) rfl (by decide) (s_16 hW gtk qrb grb) (fun R9562 T9563 H9564 p9565 => ?_))
      obtain ⟨e9566, w9568, f9569, e9567⟩ := p9565
      subst e9566
      subst e9567
      have f9570 := f0.tr f9569 rfl
      show wp _ _ 30 76 [(2, .ref r9497), (0, .ref r0), (1, .ref r1)] [] _ H9564 _
      refine wp_of e30 c30_76 (rw_aload_n (pc' := 77) (v := .ref r0) rfl rfl rfl ?_)
      refine wp_of e30 c30_77 (rw_bipush (pc' := 79) (z := 23) rfl (by decide) ?_)
      refine wp_of e30 c30_79 (rw_iconst (pc' := 80) rfl ?_)
      refine wp_of e30 c30_80 (rw_bipush (pc' := 82) (z := 24) rfl (by decide) ?_)
      refine wp_of e30 c30_82 (rw_bipush (pc' := 84) (z := 24) rfl (by decide) ?_)
      have k9571 : H9564 r0 0 = H r0 0 := (f9569 r0 0 _ g0 rfl)
      have q9572 : H9564 r0 0 = (tk : Int) := k9571.trans qtk
      have k9573 : H9564 tk 0 = H tk 0 := (f9569 tk 0 _ gtk rfl)
      have q9574 : H9564 tk 0 = (rb : Int) := k9573.trans qrb
      refine wp_of e30 c30_84 (xc_V (pc' := 87) (r := r0) (as := [vI 23, vI 1, vI 24, vI 24]) (st := []) (lm_1_154) rfl rfl (Nat.le_of_ble_eq_true rfl) w9568 g0 sh_3 (by decide) rfl (by decide) (s_29 w9568 g0 ⟨by omega, by omega⟩ ⟨by omega, by omega⟩ ⟨by omega, by omega⟩ ⟨by omega, by omega⟩ q9572 gtk q9574 grb) (fun R9575 T9576 H9577 p9578 => ?_))
      obtain ⟨e9579, w9581, f9582, z9583, e9580, b9584⟩ := p9578
      subst e9579
      subst e9580
      have f9585 := f9570.tr f9582 rfl
      show wp _ _ 30 87 [(2, .ref r9497), (0, .ref r0), (1, .ref r1)] [vI z9583] _ H9577 _
      refine wp_of e30 c30_87 (rw_if_ne (p1 := 92) (p2 := 90) (by decide) rfl ⟨by omega, by omega⟩ (fun c9586 => ?_) (fun c9586 => ?_))
      · refine wp_of e30 c30_92 (rw_aload_n (pc' := 93) (v := .ref r9497) rfl rfl rfl ?_)
        refine wp_of e30 c30_93 (rw_aload_n (pc' := 94) (v := .ref r0) rfl rfl rfl ?_)
        refine wp_of e30 c30_94 (xg_I (pc' := 97) lf_1_158 w9581 g0 sh_3 (by decide) (by decide) ty_3_1 rfl rfl (fun b9587 b9588 => ?_))
        refine wp_of e30 c30_97 (rw_aload_n (pc' := 98) (v := .ref r0) rfl rfl rfl ?_)
        refine wp_of e30 c30_98 (xg_I (pc' := 101) lf_1_164 w9581 g0 sh_3 (by decide) (by decide) ty_3_2 rfl rfl (fun b9589 b9590 => ?_))
        refine wp_of e30 c30_101 (xc_S (pc' := 104) (as := [vI (H9577 r0 1), vI (H9577 r0 2)]) (st := [.ref r9497]) (lm_1_194) rfl rfl (Nat.le_of_ble_eq_true rfl) rfl (by decide) (s_31 w9581 ⟨by omega, by omega⟩ ⟨by omega, by omega⟩) (fun R9591 T9592 H9593 p9594 => ?_))
        obtain ⟨e9595, e9597, z9598, e9596, b9599⟩ := p9594
        subst e9595
        subst e9596
        subst e9597
        show wp _ _ 30 104 [(2, .ref r9497), (0, .ref r0), (1, .ref r1)] [vI z9598, .ref r9497] _ H9577 _
        refine wp_of e30 c30_104 (xp_I (pc' := 107) lf_1_197 w9581 g9499 sh_35 (by decide) (by decide) ty_35_12 rfl rfl (by omega) (by omega) ⟨by omega, by omega⟩ rfl (fun H9600 e9601 w9602 => ?_))
        have f9603 := f9585.put' e9601 g9499 rfl
        have k9604 : H9600 r9497 12 = z9598 := wq_u_s e9601
        refine wp_of e30 c30_107 (rw_aload_n (pc' := 108) (v := .ref r0) rfl rfl rfl ?_)
        have k9605 : H9600 r0 0 = H9564 r0 0 := ((wq_u_t e9601 g9499 g0 rfl 0).trans (f9582 r0 0 _ g0 rfl))
        have q9606 : H9600 r0 0 = (tk : Int) := k9605.trans q9572
        refine wp_of e30 c30_108 (xg_K (pc' := 111) lf_1_12 w9602 g0 sh_3 (by decide) (by decide) rfl q9606 rfl ?_)
        refine wp_of e30 c30_111 (rw_gs (pc' := 114) (k := 26) rfl rfl rfl rfl ?_)
        have k9607 : H9600 26 0 = ((42 : Nat) : Int) := (w9602.2 26 _ (w9602.1.2.2 10 (by decide))).2.2 0 (by decide) |> fun z => by have z1 : (42 : Int) ≤ H9600 26 0 ∧ H9600 26 0 ≤ 42 := z; omega
        refine wp_of e30 c30_114 (rw_getR (pc' := 117) (n := 2) (b := 42) (e := _) (lf_1_181).choose_spec.1 (lf_1_181).choose_spec.2.1 (w9602.sh (w9602.1.2.2 10 (by decide)) rfl) (by decide) rfl k9607 rfl ?_)
        refine wp_of e30 c30_117 (xc_V (pc' := 120) (r := tk) (as := [.ref 42]) (st := []) (lm_1_185) rfl rfl (Nat.le_of_ble_eq_true rfl) w9602 gtk sh_4 (by decide) rfl (by decide) (s_19 w9602 gtk rfl) (fun R9608 T9609 H9610 p9611 => ?_))
        obtain ⟨e9612, e9614, z9615, e9613, b9616⟩ := p9611
        subst e9612
        subst e9613
        subst e9614
        show wp _ _ 30 120 [(2, .ref r9497), (0, .ref r0), (1, .ref r1)] [vI z9615] _ H9600 _
        refine wp_of e30 c30_120 (rw_if_eq (p1 := 135) (p2 := 123) (by decide) rfl ⟨by omega, by omega⟩ (fun c9617 => ?_) (fun c9617 => ?_))
        · refine wp_of e30 c30_135 (rw_aload_n (pc' := 136) (v := .ref r1) rfl rfl rfl ?_)
          refine wp_of e30 c30_136 (rw_dup (pc' := 137) rfl rfl ?_)
          have k9618 : H9600 r1 10 = H r1 10 := ((wq_u_t e9601 g9499 g1 rfl 10).trans ((f9582 r1 10 _ g1 rfl).trans (f9569 r1 10 _ g1 rfl)))
          refine wp_of e30 c30_137 (xg_I (pc' := 140) lf_1_44 w9602 g1 sh_27 (by decide) (by decide) ty_27_10 rfl rfl (fun b9619 b9620 => ?_))
          refine wp_of e30 c30_140 (rw_iconst (pc' := 141) rfl ?_)
          refine wp_of e30 c30_141 (rw_iadd (pc' := 142) rfl ?_)
          refine wp_of e30 c30_142 (xp_I (pc' := 145) lf_1_44 w9602 g1 sh_27 (by decide) (by decide) ty_27_10 rfl rfl (by omega) (by omega) ⟨by omega, by omega⟩ rfl (fun H9621 e9622 w9623 => ?_))
          have f9624 := f9603.put' e9622 g1 rfl
          have k9625 : H9621 r1 10 = (H9600 r1 10) + 1 := wq_u_s e9622
          refine wp_of e30 c30_145 (rw_iconst (pc' := 146) rfl ?_)
          exact wp_zreturn e30 c30_146 rfl (by omega) ⟨rfl, w9623, f9624, 1, rfl, ⟨by omega, by omega⟩⟩
        · refine wp_of e30 c30_123 (rw_aload_n (pc' := 124) (v := .ref r0) rfl rfl rfl ?_)
          refine wp_of e30 c30_124 (xg_K (pc' := 127) lf_1_12 w9602 g0 sh_3 (by decide) (by decide) rfl q9606 rfl ?_)
          have k9626 : H9600 tk 0 = H9564 tk 0 := ((wq_u_t e9601 g9499 gtk rfl 0).trans (f9582 tk 0 _ gtk rfl))
          have q9627 : H9600 tk 0 = (rb : Int) := k9626.trans q9574
          refine wp_of e30 c30_127 (xc_V (pc' := 130) (r := tk) (as := []) (st := []) (lm_1_74) rfl rfl (Nat.le_of_ble_eq_true rfl) w9602 gtk sh_4 (by decide) rfl (by decide) (s_16 w9602 gtk q9627 grb) (fun R9628 T9629 H9630 p9631 => ?_))
          obtain ⟨e9632, w9634, f9635, e9633⟩ := p9631
          subst e9632
          subst e9633
          have f9636 := f9603.tr f9635 rfl
          show wp _ _ 30 130 [(2, .ref r9497), (0, .ref r0), (1, .ref r1)] [] _ H9630 _
          refine wp_of e30 c30_130 (rw_aload_n (pc' := 131) (v := .ref r9497) rfl rfl rfl ?_)
          refine wp_of e30 c30_131 (rw_iconst (pc' := 132) rfl ?_)
          refine wp_of e30 c30_132 (xp_Z (pc' := 135) lf_1_203 w9634 g9499 sh_35 (by decide) (by decide) ty_35_13 rfl rfl (by omega) (by omega) rfl (fun H9637 e9638 w9639 => ?_))
          have f9640 := f9636.put' e9638 g9499 rfl
          have k9641 : H9637 r9497 13 = 1 := wq_u_s e9638
          refine wp_of e30 c30_135 (rw_aload_n (pc' := 136) (v := .ref r1) rfl rfl rfl ?_)
          refine wp_of e30 c30_136 (rw_dup (pc' := 137) rfl rfl ?_)
          have k9642 : H9637 r1 10 = H r1 10 := ((wq_u_t e9638 g9499 g1 rfl 10).trans ((f9635 r1 10 _ g1 rfl).trans ((wq_u_t e9601 g9499 g1 rfl 10).trans ((f9582 r1 10 _ g1 rfl).trans (f9569 r1 10 _ g1 rfl)))))
          refine wp_of e30 c30_137 (xg_I (pc' := 140) lf_1_44 w9639 g1 sh_27 (by decide) (by decide) ty_27_10 rfl rfl (fun b9643 b9644 => ?_))
          refine wp_of e30 c30_140 (rw_iconst (pc' := 141) rfl ?_)
          refine wp_of e30 c30_141 (rw_iadd (pc' := 142) rfl ?_)
          refine wp_of e30 c30_142 (xp_I (pc' := 145) lf_1_44 w9639 g1 sh_27 (by decide) (by decide) ty_27_10 rfl rfl (by omega) (by omega) ⟨by omega, by omega⟩ rfl (fun H9645 e9646 w9647 => ?_))
          have f9648 := f9640.put' e9646 g1 rfl
          have k9649 : H9645 r1 10 = (H9637 r1 10) + 1 := wq_u_s e9646
          refine wp_of e30 c30_145 (rw_iconst (pc' := 146) rfl ?_)
          exact wp_zreturn e30 c30_146 rfl (by omega) ⟨rfl, w9647, f9648, 1, rfl, ⟨by omega, by omega⟩⟩
      · refine wp_of e30 c30_90 (rw_iconst (pc' := 91) rfl ?_)
        exact wp_zreturn e30 c30_91 rfl (by omega) ⟨rfl, w9581, f9585, 0, rfl, ⟨by omega, by omega⟩⟩
  · refine wp_of e30 c30_26 (rw_aload_n (pc' := 27) (v := .ref r0) rfl rfl rfl ?_)
    refine wp_of e30 c30_27 (xg_K (pc' := 30) lf_1_12 hW g0 sh_3 (by decide) (by decide) rfl qtk rfl ?_)
    refine wp_of e30 c30_30 (xc_V (pc' := 33) (r := tk) (as := []) (st := []) (lm_1_74) rfl rfl (Nat.le_of_ble_eq_true rfl) hW gtk sh_4 (by decide) rfl (by decide) (s_16 hW gtk qrb grb) (fun R9650 T9651 H9652 p9653 => ?_))
    obtain ⟨e9654, w9656, f9657, e9655⟩ := p9653
    subst e9654
    subst e9655
    have f9658 := f0.tr f9657 rfl
    show wp _ _ 30 33 [(2, .ref r9497), (0, .ref r0), (1, .ref r1)] [] _ H9652 _
    refine wp_of e30 c30_33 (rw_aload_n (pc' := 34) (v := .ref r9497) rfl rfl rfl ?_)
    refine wp_of e30 c30_34 (rw_aload_n (pc' := 35) (v := .ref r0) rfl rfl rfl ?_)
    refine wp_of e30 c30_35 (rw_iconst (pc' := 36) rfl ?_)
    refine wp_of e30 c30_36 (rw_bipush (pc' := 38) (z := 23) rfl (by decide) ?_)
    have k9659 : H9652 r0 0 = H r0 0 := (f9657 r0 0 _ g0 rfl)
    have q9660 : H9652 r0 0 = (tk : Int) := k9659.trans qtk
    have k9661 : H9652 tk 0 = H tk 0 := (f9657 tk 0 _ gtk rfl)
    have q9662 : H9652 tk 0 = (rb : Int) := k9661.trans qrb
    refine wp_of e30 c30_38 (xc_V (pc' := 41) (r := r0) (as := [vI 0, vI 23]) (st := [.ref r9497]) (lm_1_119) rfl rfl (Nat.le_of_ble_eq_true rfl) w9656 g0 sh_3 (by decide) rfl (by decide) (s_24 w9656 g0 ⟨by omega, by omega⟩ ⟨by omega, by omega⟩ q9660 gtk q9662 grb) (fun R9663 T9664 H9665 p9666 => ?_))
    obtain ⟨e9667, w9669, f9670, z9672, e9668, b9673, p9671⟩ := p9666
    subst e9667
    subst e9668
    have f9674 := f9658.tr f9670 rfl
    show wp _ _ 30 41 [(2, .ref r9497), (0, .ref r0), (1, .ref r1)] [vI z9672, .ref r9497] _ H9665 _
    refine wp_of e30 c30_41 (xp_I (pc' := 44) lf_1_188 w9669 g9499 sh_35 (by decide) (by decide) ty_35_11 rfl rfl (by omega) (by omega) ⟨by omega, by omega⟩ rfl (fun H9675 e9676 w9677 => ?_))
    have f9678 := f9674.put' e9676 g9499 rfl
    have k9679 : H9675 r9497 11 = z9672 := wq_u_s e9676
    refine wp_of e30 c30_44 (rw_aload_n (pc' := 45) (v := .ref r9497) rfl rfl rfl ?_)
    refine wp_of e30 c30_45 (xg_I (pc' := 48) lf_1_188 w9677 g9499 sh_35 (by decide) (by decide) ty_35_11 rfl rfl (fun b9680 b9681 => ?_))
    refine wp_of e30 c30_48 (rw_if_ge (p1 := 53) (p2 := 51) (by decide) rfl ⟨by omega, by omega⟩ (fun c9682 => ?_) (fun c9682 => ?_))
    · refine wp_of e30 c30_53 (rw_aload_n (pc' := 54) (v := .ref r0) rfl rfl rfl ?_)
      have k9683 : H9675 r0 0 = H9652 r0 0 := ((wq_u_t e9676 g9499 g0 rfl 0).trans (f9670 r0 0 _ g0 rfl))
      have q9684 : H9675 r0 0 = (tk : Int) := k9683.trans q9660
      refine wp_of e30 c30_54 (xg_K (pc' := 57) lf_1_12 w9677 g0 sh_3 (by decide) (by decide) rfl q9684 rfl ?_)
      refine wp_of e30 c30_57 (rw_gs (pc' := 60) (k := 25) rfl rfl rfl rfl ?_)
      have k9685 : H9675 25 0 = ((41 : Nat) : Int) := (w9677.2 25 _ (w9677.1.2.2 9 (by decide))).2.2 0 (by decide) |> fun z => by have z1 : (41 : Int) ≤ H9675 25 0 ∧ H9675 25 0 ≤ 41 := z; omega
      refine wp_of e30 c30_60 (rw_getR (pc' := 63) (n := 2) (b := 41) (e := _) (lf_1_181).choose_spec.1 (lf_1_181).choose_spec.2.1 (w9677.sh (w9677.1.2.2 9 (by decide)) rfl) (by decide) rfl k9685 rfl ?_)
      refine wp_of e30 c30_63 (xc_V (pc' := 66) (r := tk) (as := [.ref 41]) (st := []) (lm_1_185) rfl rfl (Nat.le_of_ble_eq_true rfl) w9677 gtk sh_4 (by decide) rfl (by decide) (s_19 w9677 gtk rfl) (fun R9686 T9687 H9688 p9689 => ?_))
      obtain ⟨e9690, e9692, z9693, e9691, b9694⟩ := p9689
      subst e9690
      subst e9691
      subst e9692
      show wp _ _ 30 66 [(2, .ref r9497), (0, .ref r0), (1, .ref r1)] [vI z9693] _ H9675 _
      refine wp_of e30 c30_66 (rw_if_eq (p1 := 107) (p2 := 69) (by decide) rfl ⟨by omega, by omega⟩ (fun c9695 => ?_) (fun c9695 => ?_))
      · refine wp_of e30 c30_107 (rw_aload_n (pc' := 108) (v := .ref r0) rfl rfl rfl ?_)
        refine wp_of e30 c30_108 (xg_K (pc' := 111) lf_1_12 w9677 g0 sh_3 (by decide) (by decide) rfl q9684 rfl ?_)
        refine wp_of e30 c30_111 (rw_gs (pc' := 114) (k := 26) rfl rfl rfl rfl ?_)
        have k9696 : H9675 26 0 = ((42 : Nat) : Int) := (w9677.2 26 _ (w9677.1.2.2 10 (by decide))).2.2 0 (by decide) |> fun z => by have z1 : (42 : Int) ≤ H9675 26 0 ∧ H9675 26 0 ≤ 42 := z; omega
        refine wp_of e30 c30_114 (rw_getR (pc' := 117) (n := 2) (b := 42) (e := _) (lf_1_181).choose_spec.1 (lf_1_181).choose_spec.2.1 (w9677.sh (w9677.1.2.2 10 (by decide)) rfl) (by decide) rfl k9696 rfl ?_)
        refine wp_of e30 c30_117 (xc_V (pc' := 120) (r := tk) (as := [.ref 42]) (st := []) (lm_1_185) rfl rfl (Nat.le_of_ble_eq_true rfl) w9677 gtk sh_4 (by decide) rfl (by decide) (s_19 w9677 gtk rfl) (fun R9697 T9698 H9699 p9700 => ?_))
        obtain ⟨e9701, e9703, z9704, e9702, b9705⟩ := p9700
        subst e9701
        subst e9702
        subst e9703
        show wp _ _ 30 120 [(2, .ref r9497), (0, .ref r0), (1, .ref r1)] [vI z9704] _ H9675 _
        refine wp_of e30 c30_120 (rw_if_eq (p1 := 135) (p2 := 123) (by decide) rfl ⟨by omega, by omega⟩ (fun c9706 => ?_) (fun c9706 => ?_))
        · refine wp_of e30 c30_135 (rw_aload_n (pc' := 136) (v := .ref r1) rfl rfl rfl ?_)
          refine wp_of e30 c30_136 (rw_dup (pc' := 137) rfl rfl ?_)
          have k9707 : H9675 r1 10 = H r1 10 := ((wq_u_t e9676 g9499 g1 rfl 10).trans ((f9670 r1 10 _ g1 rfl).trans (f9657 r1 10 _ g1 rfl)))
          refine wp_of e30 c30_137 (xg_I (pc' := 140) lf_1_44 w9677 g1 sh_27 (by decide) (by decide) ty_27_10 rfl rfl (fun b9708 b9709 => ?_))
          refine wp_of e30 c30_140 (rw_iconst (pc' := 141) rfl ?_)
          refine wp_of e30 c30_141 (rw_iadd (pc' := 142) rfl ?_)
          refine wp_of e30 c30_142 (xp_I (pc' := 145) lf_1_44 w9677 g1 sh_27 (by decide) (by decide) ty_27_10 rfl rfl (by omega) (by omega) ⟨by omega, by omega⟩ rfl (fun H9710 e9711 w9712 => ?_))
          have f9713 := f9678.put' e9711 g1 rfl
          have k9714 : H9710 r1 10 = (H9675 r1 10) + 1 := wq_u_s e9711
          refine wp_of e30 c30_145 (rw_iconst (pc' := 146) rfl ?_)
          exact wp_zreturn e30 c30_146 rfl (by omega) ⟨rfl, w9712, f9713, 1, rfl, ⟨by omega, by omega⟩⟩
        · refine wp_of e30 c30_123 (rw_aload_n (pc' := 124) (v := .ref r0) rfl rfl rfl ?_)
          refine wp_of e30 c30_124 (xg_K (pc' := 127) lf_1_12 w9677 g0 sh_3 (by decide) (by decide) rfl q9684 rfl ?_)
          have k9715 : H9675 tk 0 = H9652 tk 0 := ((wq_u_t e9676 g9499 gtk rfl 0).trans (f9670 tk 0 _ gtk rfl))
          have q9716 : H9675 tk 0 = (rb : Int) := k9715.trans q9662
          refine wp_of e30 c30_127 (xc_V (pc' := 130) (r := tk) (as := []) (st := []) (lm_1_74) rfl rfl (Nat.le_of_ble_eq_true rfl) w9677 gtk sh_4 (by decide) rfl (by decide) (s_16 w9677 gtk q9716 grb) (fun R9717 T9718 H9719 p9720 => ?_))
          obtain ⟨e9721, w9723, f9724, e9722⟩ := p9720
          subst e9721
          subst e9722
          have f9725 := f9678.tr f9724 rfl
          show wp _ _ 30 130 [(2, .ref r9497), (0, .ref r0), (1, .ref r1)] [] _ H9719 _
          refine wp_of e30 c30_130 (rw_aload_n (pc' := 131) (v := .ref r9497) rfl rfl rfl ?_)
          refine wp_of e30 c30_131 (rw_iconst (pc' := 132) rfl ?_)
          refine wp_of e30 c30_132 (xp_Z (pc' := 135) lf_1_203 w9723 g9499 sh_35 (by decide) (by decide) ty_35_13 rfl rfl (by omega) (by omega) rfl (fun H9726 e9727 w9728 => ?_))
          have f9729 := f9725.put' e9727 g9499 rfl
          have k9730 : H9726 r9497 13 = 1 := wq_u_s e9727
          refine wp_of e30 c30_135 (rw_aload_n (pc' := 136) (v := .ref r1) rfl rfl rfl ?_)
          refine wp_of e30 c30_136 (rw_dup (pc' := 137) rfl rfl ?_)
          have k9731 : H9726 r1 10 = H r1 10 := ((wq_u_t e9727 g9499 g1 rfl 10).trans ((f9724 r1 10 _ g1 rfl).trans ((wq_u_t e9676 g9499 g1 rfl 10).trans ((f9670 r1 10 _ g1 rfl).trans (f9657 r1 10 _ g1 rfl)))))
          refine wp_of e30 c30_137 (xg_I (pc' := 140) lf_1_44 w9728 g1 sh_27 (by decide) (by decide) ty_27_10 rfl rfl (fun b9732 b9733 => ?_))
          refine wp_of e30 c30_140 (rw_iconst (pc' := 141) rfl ?_)
          refine wp_of e30 c30_141 (rw_iadd (pc' := 142) rfl ?_)
          refine wp_of e30 c30_142 (xp_I (pc' := 145) lf_1_44 w9728 g1 sh_27 (by decide) (by decide) ty_27_10 rfl rfl (by omega) (by omega) ⟨by omega, by omega⟩ rfl (fun H9734 e9735 w9736 => ?_))
          have f9737 := f9729.put' e9735 g1 rfl
          have k9738 : H9734 r1 10 = (H9726 r1 10) + 1 := wq_u_s e9735
          refine wp_of e30 c30_145 (rw_iconst (pc' := 146) rfl ?_)
          exact wp_zreturn e30 c30_146 rfl (by omega) ⟨rfl, w9736, f9737, 1, rfl, ⟨by omega, by omega⟩⟩
      · refine wp_of e30 c30_69 (rw_aload_n (pc' := 70) (v := .ref r0) rfl rfl rfl ?_)
        refine wp_of e30 c30_70 (xg_K (pc' := 73) lf_1_12 w9677 g0 sh_3 (by decide) (by decide) rfl q9684 rfl ?_)
        have k9739 : H9675 tk 0 = H9652 tk 0 := ((wq_u_t e9676 g9499 gtk rfl 0).trans (f9670 tk 0 _ gtk rfl))
        have q9740 : H9675 tk 0 = (rb : Int) := k9739.trans q9662
        refine wp_of e30 c30_73 (xc_V (pc' := 76) (r := tk) (as := []) (st := []) (lm_1_74) rfl rfl (Nat.le_of_ble_eq_true rfl) w9677 gtk sh_4 (by decide) rfl (by decide) (s_16 w9677 gtk q9740 grb) (fun R9741 T9742 H9743 p9744 => ?_))
        obtain ⟨e9745, w9747, f9748, e9746⟩ := p9744
        subst e9745
        subst e9746
        have f9749 := f9678.tr f9748 rfl
        show wp _ _ 30 76 [(2, .ref r9497), (0, .ref r0), (1, .ref r1)] [] _ H9743 _
        refine wp_of e30 c30_76 (rw_aload_n (pc' := 77) (v := .ref r0) rfl rfl rfl ?_)
        refine wp_of e30 c30_77 (rw_bipush (pc' := 79) (z := 23) rfl (by decide) ?_)
        refine wp_of e30 c30_79 (rw_iconst (pc' := 80) rfl ?_)
        refine wp_of e30 c30_80 (rw_bipush (pc' := 82) (z := 24) rfl (by decide) ?_)
        refine wp_of e30 c30_82 (rw_bipush (pc' := 84) (z := 24) rfl (by decide) ?_)
        have k9750 : H9743 r0 0 = H9675 r0 0 := (f9748 r0 0 _ g0 rfl)
        have q9751 : H9743 r0 0 = (tk : Int) := k9750.trans q9684
        have k9752 : H9743 tk 0 = H9675 tk 0 := (f9748 tk 0 _ gtk rfl)
        have q9753 : H9743 tk 0 = (rb : Int) := k9752.trans q9740
        refine wp_of e30 c30_84 (xc_V (pc' := 87) (r := r0) (as := [vI 23, vI 1, vI 24, vI 24]) (st := []) (lm_1_154) rfl rfl (Nat.le_of_ble_eq_true rfl) w9747 g0 sh_3 (by decide) rfl (by decide) (s_29 w9747 g0 ⟨by omega, by omega⟩ ⟨by omega, by omega⟩ ⟨by omega, by omega⟩ ⟨by omega, by omega⟩ q9751 gtk q9753 grb) (fun R9754 T9755 H9756 p9757 => ?_))
        obtain ⟨e9758, w9760, f9761, z9762, e9759, b9763⟩ := p9757
        subst e9758
        subst e9759
        have f9764 := f9749.tr f9761 rfl
        show wp _ _ 30 87 [(2, .ref r9497), (0, .ref r0), (1, .ref r1)] [vI z9762] _ H9756 _
        refine wp_of e30 c30_87 (rw_if_ne (p1 := 92) (p2 := 90) (by decide) rfl ⟨by omega, by omega⟩ (fun c9765 => ?_) (fun c9765 => ?_))
        · refine wp_of e30 c30_92 (rw_aload_n (pc' := 93) (v := .ref r9497) rfl rfl rfl ?_)
          refine wp_of e30 c30_93 (rw_aload_n (pc' := 94) (v := .ref r0) rfl rfl rfl ?_)
          refine wp_of e30 c30_94 (xg_I (pc' := 97) lf_1_158 w9760 g0 sh_3 (by decide) (by decide) ty_3_1 rfl rfl (fun b9766 b9767 => ?_))
          refine wp_of e30 c30_97 (rw_aload_n (pc' := 98) (v := .ref r0) rfl rfl rfl ?_)
          refine wp_of e30 c30_98 (xg_I (pc' := 101) lf_1_164 w9760 g0 sh_3 (by decide) (by decide) ty_3_2 rfl rfl (fun b9768 b9769 => ?_))
          refine wp_of e30 c30_101 (xc_S (pc' := 104) (as := [vI (H9756 r0 1), vI (H9756 r0 2)]) (st := [.ref r9497]) (lm_1_194) rfl rfl (Nat.le_of_ble_eq_true rfl) rfl (by decide) (s_31 w9760 ⟨by omega, by omega⟩ ⟨by omega, by omega⟩) (fun R9770 T9771 H9772 p9773 => ?_))
          obtain ⟨e9774, e9776, z9777, e9775, b9778⟩ := p9773
          subst e9774
          subst e9775
          subst e9776
          show wp _ _ 30 104 [(2, .ref r9497), (0, .ref r0), (1, .ref r1)] [vI z9777, .ref r9497] _ H9756 _
          refine wp_of e30 c30_104 (xp_I (pc' := 107) lf_1_197 w9760 g9499 sh_35 (by decide) (by decide) ty_35_12 rfl rfl (by omega) (by omega) ⟨by omega, by omega⟩ rfl (fun H9779 e9780 w9781 => ?_))
          have f9782 := f9764.put' e9780 g9499 rfl
          have k9783 : H9779 r9497 12 = z9777 := wq_u_s e9780
          refine wp_of e30 c30_107 (rw_aload_n (pc' := 108) (v := .ref r0) rfl rfl rfl ?_)
          have k9784 : H9779 r0 0 = H9743 r0 0 := ((wq_u_t e9780 g9499 g0 rfl 0).trans (f9761 r0 0 _ g0 rfl))
          have q9785 : H9779 r0 0 = (tk : Int) := k9784.trans q9751
          refine wp_of e30 c30_108 (xg_K (pc' := 111) lf_1_12 w9781 g0 sh_3 (by decide) (by decide) rfl q9785 rfl ?_)
          refine wp_of e30 c30_111 (rw_gs (pc' := 114) (k := 26) rfl rfl rfl rfl ?_)
          have k9786 : H9779 26 0 = ((42 : Nat) : Int) := (w9781.2 26 _ (w9781.1.2.2 10 (by decide))).2.2 0 (by decide) |> fun z => by have z1 : (42 : Int) ≤ H9779 26 0 ∧ H9779 26 0 ≤ 42 := z; omega
          refine wp_of e30 c30_114 (rw_getR (pc' := 117) (n := 2) (b := 42) (e := _) (lf_1_181).choose_spec.1 (lf_1_181).choose_spec.2.1 (w9781.sh (w9781.1.2.2 10 (by decide)) rfl) (by decide) rfl k9786 rfl ?_)
          refine wp_of e30 c30_117 (xc_V (pc' := 120) (r := tk) (as := [.ref 42]) (st := []) (lm_1_185) rfl rfl (Nat.le_of_ble_eq_true rfl) w9781 gtk sh_4 (by decide) rfl (by decide) (s_19 w9781 gtk rfl) (fun R9787 T9788 H9789 p9790 => ?_))
          obtain ⟨e9791, e9793, z9794, e9792, b9795⟩ := p9790
          subst e9791
          subst e9792
          subst e9793
          show wp _ _ 30 120 [(2, .ref r9497), (0, .ref r0), (1, .ref r1)] [vI z9794] _ H9779 _
          refine wp_of e30 c30_120 (rw_if_eq (p1 := 135) (p2 := 123) (by decide) rfl ⟨by omega, by omega⟩ (fun c9796 => ?_) (fun c9796 => ?_))
          · refine wp_of e30 c30_135 (rw_aload_n (pc' := 136) (v := .ref r1) rfl rfl rfl ?_)
            refine wp_of e30 c30_136 (rw_dup (pc' := 137) rfl rfl ?_)
            have k9797 : H9779 r1 10 = H r1 10 := ((wq_u_t e9780 g9499 g1 rfl 10).trans ((f9761 r1 10 _ g1 rfl).trans ((f9748 r1 10 _ g1 rfl).trans ((wq_u_t e9676 g9499 g1 rfl 10).trans ((f9670 r1 10 _ g1 rfl).trans (f9657 r1 10 _ g1 rfl))))))
            refine wp_of e30 c30_137 (xg_I (pc' := 140) lf_1_44 w9781 g1 sh_27 (by decide) (by decide) ty_27_10 rfl rfl (fun b9798 b9799 => ?_))
            refine wp_of e30 c30_140 (rw_iconst (pc' := 141) rfl ?_)
            refine wp_of e30 c30_141 (rw_iadd (pc' := 142) rfl ?_)
            refine wp_of e30 c30_142 (xp_I (pc' := 145) lf_1_44 w9781 g1 sh_27 (by decide) (by decide) ty_27_10 rfl rfl (by omega) (by omega) ⟨by omega, by omega⟩ rfl (fun H9800 e9801 w9802 => ?_))
            have f9803 := f9782.put' e9801 g1 rfl
            have k9804 : H9800 r1 10 = (H9779 r1 10) + 1 := wq_u_s e9801
            refine wp_of e30 c30_145 (rw_iconst (pc' := 146) rfl ?_)
            exact wp_zreturn e30 c30_146 rfl (by omega) ⟨rfl, w9802, f9803, 1, rfl, ⟨by omega, by omega⟩⟩
          · refine wp_of e30 c30_123 (rw_aload_n (pc' := 124) (v := .ref r0) rfl rfl rfl ?_)
            refine wp_of e30 c30_124 (xg_K (pc' := 127) lf_1_12 w9781 g0 sh_3 (by decide) (by decide) rfl q9785 rfl ?_)
            have k9805 : H9779 tk 0 = H9743 tk 0 := ((wq_u_t e9780 g9499 gtk rfl 0).trans (f9761 tk 0 _ gtk rfl))
            have q9806 : H9779 tk 0 = (rb : Int) := k9805.trans q9753
            refine wp_of e30 c30_127 (xc_V (pc' := 130) (r := tk) (as := []) (st := []) (lm_1_74) rfl rfl (Nat.le_of_ble_eq_true rfl) w9781 gtk sh_4 (by decide) rfl (by decide) (s_16 w9781 gtk q9806 grb) (fun R9807 T9808 H9809 p9810 => ?_))
            obtain ⟨e9811, w9813, f9814, e9812⟩ := p9810
            subst e9811
            subst e9812
            have f9815 := f9782.tr f9814 rfl
            show wp _ _ 30 130 [(2, .ref r9497), (0, .ref r0), (1, .ref r1)] [] _ H9809 _
            refine wp_of e30 c30_130 (rw_aload_n (pc' := 131) (v := .ref r9497) rfl rfl rfl ?_)
            refine wp_of e30 c30_131 (rw_iconst (pc' := 132) rfl ?_)
            refine wp_of e30 c30_132 (xp_Z (pc' := 135) lf_1_203 w9813 g9499 sh_35 (by decide) (by decide) ty_35_13 rfl rfl (by omega) (by omega) rfl (fun H9816 e9817 w9818 => ?_))
            have f9819 := f9815.put' e9817 g9499 rfl
            have k9820 : H9816 r9497 13 = 1 := wq_u_s e9817
            refine wp_of e30 c30_135 (rw_aload_n (pc' := 136) (v := .ref r1) rfl rfl rfl ?_)
            refine wp_of e30 c30_136 (rw_dup (pc' := 137) rfl rfl ?_)
            have k9821 : H9816 r1 10 = H r1 10 := ((wq_u_t e9817 g9499 g1 rfl 10).trans ((f9814 r1 10 _ g1 rfl).trans ((wq_u_t e9780 g9499 g1 rfl 10).trans ((f9761 r1 10 _ g1 rfl).trans ((f9748 r1 10 _ g1 rfl).trans ((wq_u_t e9676 g9499 g1 rfl 10).trans ((f9670 r1 10 _ g1 rfl).trans (f9657 r1 10 _ g1 rfl))))))))
            refine wp_of e30 c30_137 (xg_I (pc' := 140) lf_1_44 w9818 g1 sh_27 (by decide) (by decide) ty_27_10 rfl rfl (fun b9822 b9823 => ?_))
            refine wp_of e30 c30_140 (rw_iconst (pc' := 141) rfl ?_)
            refine wp_of e30 c30_141 (rw_iadd (pc' := 142) rfl ?_)
            refine wp_of e30 c30_142 (xp_I (pc' := 145) lf_1_44 w9818 g1 sh_27 (by decide) (by decide) ty_27_10 rfl rfl (by omega) (by omega) ⟨by omega, by omega⟩ rfl (fun H9824 e9825 w9826 => ?_))
            have f9827 := f9819.put' e9825 g1 rfl
            have k9828 : H9824 r1 10 = (H9816 r1 10) + 1 := wq_u_s e9825
            refine wp_of e30 c30_145 (rw_iconst (pc' := 146) rfl ?_)
            exact wp_zreturn e30 c30_146 rfl (by omega) ⟨rfl, w9826, f9827, 1, rfl, ⟨by omega, by omega⟩⟩
        · refine wp_of e30 c30_90 (rw_iconst (pc' := 91) rfl ?_)
          exact wp_zreturn e30 c30_91 rfl (by omega) ⟨rfl, w9760, f9764, 0, rfl, ⟨by omega, by omega⟩⟩
    · refine wp_of e30 c30_51 (rw_iconst (pc' := 52) rfl ?_)
      exact wp_zreturn e30 c30_52 rfl (by omega) ⟨rfl, w9677, f9678, 0, rfl, ⟨by omega, by omega⟩⟩
