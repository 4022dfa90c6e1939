/-! methods (own work, written by wip/gen2/sx.py) -/
/-! StrikeAwake$Tokens.begin([BI)V -/
theorem e15 : wq_en 15 = some (2, 3, false, none) := rfl
theorem c15_0 : mc_cd 15 0 = some (.aload_n 0, 1) := by decide +kernel
theorem c15_1 : mc_cd 15 1 = some (.aload_n 1, 1) := by decide +kernel
theorem c15_2 : mc_cd 15 2 = some (.putfield 7, 3) := by decide +kernel
theorem c15_5 : mc_cd 15 5 = some (.aload_n 0, 1) := by decide +kernel
theorem c15_6 : mc_cd 15 6 = some (.iload_n 2, 1) := by decide +kernel
theorem c15_7 : mc_cd 15 7 = some (.aload_n 1, 1) := by decide +kernel
theorem c15_8 : mc_cd 15 8 = some (.arraylength, 1) := by decide +kernel
theorem c15_9 : mc_cd 15 9 = some (.invokestatic 13, 3) := by decide +kernel
theorem c15_12 : mc_cd 15 12 = some (.putfield 19, 3) := by decide +kernel
theorem c15_15 : mc_cd 15 15 = some (.aload_n 0, 1) := by decide +kernel
theorem c15_16 : mc_cd 15 16 = some (.iconst 0, 1) := by decide +kernel
theorem c15_17 : mc_cd 15 17 = some (.putfield 23, 3) := by decide +kernel
theorem c15_20 : mc_cd 15 20 = some (.aload_n 0, 1) := by decide +kernel
theorem c15_21 : mc_cd 15 21 = some (.invokevirtual 26, 3) := by decide +kernel
theorem c15_24 : mc_cd 15 24 = some (.return_, 1) := by decide +kernel
abbrev q_15 (r0 : Nat) (r1 : Nat) (a2 : Int) (T : wq_T) (H : wq_H) : Option Value → wq_T → wq_H → Prop := fun r T' H' => T = T' ∧ WT T H' ∧ wfr [(4, 0), (4, 1), (4, 2), (4, 3), (4, 4), (4, 5), (4, 6)] T H H' ∧ none = r ∧ (H' r0 0 = (r1 : Int))
set_option maxHeartbeats 4000000 in
theorem s_15 {kt : Nat → Option mc_E} {T : wq_T} {H : wq_H} {r0 : Nat} {r1 : Nat} {a2 : Int} (hW : WT T H) (g0 : T.2.2.2 r0 = some 4) (g1 : T.2.2.2 r1 = some 2) (i2 : 0 ≤ a2 ∧ a2 ≤ 900) : wpc kt 2 15 [.ref r0, .ref r1, vI a2] T H (q_15 r0 r1 a2 T H) := by
  refine wp_enter e15 (Nat.le_of_ble_eq_true rfl) rfl ?_
  have f0 : wfr [(4, 0), (4, 1), (4, 2), (4, 3), (4, 4), (4, 5), (4, 6)] T H H := wfr.rf
  show wp _ _ 15 0 [(0, .ref r0), (1, .ref r1), (2, vI a2)] [] _ H _
  refine wp_of e15 c15_0 (rw_aload_n (pc' := 1) (v := .ref r0) rfl rfl rfl ?_)
  refine wp_of e15 c15_1 (rw_aload_n (pc' := 2) (v := .ref r1) rfl rfl rfl ?_)
  refine wp_of e15 c15_2 (xp_R (pc' := 5) lf_2_7 hW g0 sh_4 (by decide) (by decide) rfl rfl (wok_4 ty_4_0 g1) rfl (fun H6137 e6138 w6139 => ?_))
  have f6140 := f0.put' e6138 g0 rfl
  have q6141 : H6137 r0 0 = (r1 : Int) := wq_u_s e6138
  refine wp_of e15 c15_5 (rw_aload_n (pc' := 6) (v := .ref r0) rfl rfl rfl ?_)
  refine wp_of e15 c15_6 (rw_iload_n (pc' := 7) (z := a2) rfl rfl ?_)
  refine wp_of e15 c15_7 (rw_aload_n (pc' := 8) (v := .ref r1) rfl rfl rfl ?_)
  refine wp_of e15 c15_8 (xa_N (pc' := 9) (n := 900) w6139 g1 sh_2 (by decide) rfl ?_)
  refine wp_of e15 c15_9 (rw_math2 (pc' := 12) (z := min a2 900) rfl rfl ⟨by omega, by omega⟩ ⟨by omega, by omega⟩ (Or.inl ⟨rfl, rfl⟩) (Nat.le_of_ble_eq_true rfl) rfl ?_)
  obtain ⟨v6142, e6143⟩ : ∃ x : Int, x = min a2 900 := ⟨_, rfl⟩
  rw [← e6143]
  have b6144 : v6142 = a2 ∨ v6142 = 900 := by
    rw [e6143]
    omega
  have b6145 : v6142 ≤ a2 ∧ v6142 ≤ 900 := by
    rw [e6143]
    omega
  refine wp_of e15 c15_12 (xp_I (pc' := 15) lf_2_19 w6139 g0 sh_4 (by decide) (by decide) ty_4_1 rfl rfl (by omega) (by omega) ⟨by omega, by omega⟩ rfl (fun H6146 e6147 w6148 => ?_))
  have f6149 := f6140.put' e6147 g0 rfl
  have k6150 : H6146 r0 1 = v6142 := wq_u_s e6147
  refine wp_of e15 c15_15 (rw_aload_n (pc' := 16) (v := .ref r0) rfl rfl rfl ?_)
  refine wp_of e15 c15_16 (rw_iconst (pc' := 17) rfl ?_)
  refine wp_of e15 c15_17 (xp_I (pc' := 20) lf_2_23 w6148 g0 sh_4 (by decide) (by decide) ty_4_2 rfl rfl (by omega) (by omega) ⟨by omega, by omega⟩ rfl (fun H6151 e6152 w6153 => ?_))
  have f6154 := f6149.put' e6152 g0 rfl
  have k6155 : H6151 r0 2 = 0 := wq_u_s e6152
  refine wp_of e15 c15_20 (rw_aload_n (pc' := 21) (v := .ref r0) rfl rfl rfl ?_)
  have k6156 : H6151 r0 0 = H6137 r0 0 := ((wq_u_j e6152 rfl).trans (wq_u_j e6147 rfl))
  have q6157 : H6151 r0 0 = (r1 : Int) := k6156.trans q6141
  refine wp_of e15 c15_21 (xc_V (pc' := 24) (r := r0) (as := []) (st := []) (lm_2_26) rfl rfl (Nat.le_of_ble_eq_true rfl) w6153 g0 sh_4 (by decide) rfl (by decide) (s_16 w6153 g0 q6157 g1) (fun R6158 T6159 H6160 p6161 => ?_))
  obtain ⟨e6162, w6164, f6165, e6163⟩ := p6161
  subst e6162
  subst e6163
  have f6166 := f6154.tr f6165 rfl
  show wp _ _ 15 24 [(0, .ref r0), (1, .ref r1), (2, vI a2)] [] _ H6160 _
  have k6167 : H6160 r0 0 = H6151 r0 0 := (f6165 r0 0 _ g0 rfl)
  have q6168 : H6160 r0 0 = (r1 : Int) := k6167.trans q6157
  exact wp_return e15 c15_24 rfl ⟨rfl, w6164, f6166, rfl, by omega⟩
/-! StrikeAwake$Tokens.isWord(Ljava/lang/String;)Z -/
theorem e19 : wq_en 19 = some (2, 5, false, some FieldType.boolean) := rfl
theorem c19_0 : mc_cd 19 0 = some (.aload_n 0, 1) := by decide +kernel
theorem c19_1 : mc_cd 19 1 = some (.getfield 41, 3) := by decide +kernel
theorem c19_4 : mc_cd 19 4 = some (.iconst 1, 1) := by decide +kernel
theorem c19_5 : mc_cd 19 5 = some (.if_icmp .eq 5, 3) := by decide +kernel
theorem c19_8 : mc_cd 19 8 = some (.iconst 0, 1) := by decide +kernel
theorem c19_9 : mc_cd 19 9 = some (.ireturn, 1) := by decide +kernel
theorem c19_10 : mc_cd 19 10 = some (.lconst 0, 1) := by decide +kernel
theorem c19_11 : mc_cd 19 11 = some (.lstore_n 2, 1) := by decide +kernel
theorem c19_12 : mc_cd 19 12 = some (.iconst 0, 1) := by decide +kernel
theorem c19_13 : mc_cd 19 13 = some (.istore 4, 2) := by decide +kernel
theorem c19_15 : mc_cd 19 15 = some (.iload 4, 2) := by decide +kernel
theorem c19_17 : mc_cd 19 17 = some (.aload_n 1, 1) := by decide +kernel
theorem c19_18 : mc_cd 19 18 = some (.invokevirtual 44, 3) := by decide +kernel
theorem c19_21 : mc_cd 19 21 = some (.if_icmp .ge 28, 3) := by decide +kernel
theorem c19_24 : mc_cd 19 24 = some (.lload_n 2, 1) := by decide +kernel
theorem c19_25 : mc_cd 19 25 = some (.ldc2_w 36, 3) := by decide +kernel
theorem c19_28 : mc_cd 19 28 = some (.lmul, 1) := by decide +kernel
theorem c19_29 : mc_cd 19 29 = some (.aload_n 1, 1) := by decide +kernel
theorem c19_30 : mc_cd 19 30 = some (.iload 4, 2) := by decide +kernel
theorem c19_32 : mc_cd 19 32 = some (.invokevirtual 49, 3) := by decide +kernel
theorem c19_35 : mc_cd 19 35 = some (.bipush 97, 2) := by decide +kernel
theorem c19_37 : mc_cd 19 37 = some (.isub, 1) := by decide +kernel
theorem c19_38 : mc_cd 19 38 = some (.iconst 1, 1) := by decide +kernel
theorem c19_39 : mc_cd 19 39 = some (.iadd, 1) := by decide +kernel
theorem c19_40 : mc_cd 19 40 = some (.i2l, 1) := by decide +kernel
theorem c19_41 : mc_cd 19 41 = some (.ladd, 1) := by decide +kernel
theorem c19_42 : mc_cd 19 42 = some (.lstore_n 2, 1) := by decide +kernel
theorem c19_43 : mc_cd 19 43 = some (.iinc 4 1, 3) := by decide +kernel
theorem c19_46 : mc_cd 19 46 = some (.goto (-31), 3) := by decide +kernel
theorem c19_49 : mc_cd 19 49 = some (.lload_n 2, 1) := by decide +kernel
theorem c19_50 : mc_cd 19 50 = some (.aload_n 0, 1) := by decide +kernel
theorem c19_51 : mc_cd 19 51 = some (.getfield 32, 3) := by decide +kernel
theorem c19_54 : mc_cd 19 54 = some (.lcmp, 1) := by decide +kernel
theorem c19_55 : mc_cd 19 55 = some (.ifCond .ne 7, 3) := by decide +kernel
theorem c19_58 : mc_cd 19 58 = some (.iconst 1, 1) := by decide +kernel
theorem c19_59 : mc_cd 19 59 = some (.goto 4, 3) := by decide +kernel
theorem c19_62 : mc_cd 19 62 = some (.iconst 0, 1) := by decide +kernel
theorem c19_63 : mc_cd 19 63 = some (.ireturn, 1) := by decide +kernel
abbrev q_19 (r0 : Nat) (s1 : Nat) (T : wq_T) (H : wq_H) : Option Value → wq_T → wq_H → Prop := fun r T' H' => T = T' ∧ H = H' ∧ ∃ z : Int, some (vI z) = r ∧ (0 ≤ z ∧ z ≤ 1)
set_option maxHeartbeats 4000000 in
theorem s_19 {kt : Nat → Option mc_E} {T : wq_T} {H : wq_H} {r0 : Nat} {s1 : Nat} {t1 : List Int32} (hW : WT T H) (g0 : T.2.2.2 r0 = some 4) (h1 : mc_find mc_sb s1 = some t1) : wpc kt 1 19 [.ref r0, .ref s1] T H (q_19 r0 s1 T H) := by
  refine wp_enter e19 (Nat.le_of_ble_eq_true rfl) rfl ?_
  show wp _ _ 19 0 [(0, .ref r0), (1, .ref s1)] [] _ H _
  refine wp_of e19 c19_0 (rw_aload_n (pc' := 1) (v := .ref r0) rfl rfl rfl ?_)
  refine wp_of e19 c19_1 (xg_I (pc' := 4) lf_2_41 hW g0 sh_4 (by decide) (by decide) ty_4_3 rfl rfl (fun b6273 b6274 => ?_))
  refine wp_of e19 c19_4 (rw_iconst (pc' := 5) rfl ?_)
  refine wp_of e19 c19_5 (rw_icmp_eq (p1 := 10) (p2 := 8) (by decide) rfl ⟨by omega, by omega⟩ ⟨by omega, by omega⟩ (fun c6275 => ?_) (fun c6275 => ?_))
  · refine wp_of e19 c19_10 (rw_lconst (pc' := 11) (z := 0) rfl rfl ?_)
    refine wp_of e19 c19_11 (rw_lstore_n (pc' := 12) (z := 0) (L' := [(2, vL 0), (0, .ref r0), (1, .ref s1)]) rfl rfl rfl ?_)
    refine wp_of e19 c19_12 (rw_iconst (pc' := 13) rfl ?_)
    refine wp_of e19 c19_13 (rw_istore (pc' := 15) (z := 0) (L' := [(4, vI 0), (2, vL 0), (0, .ref r0), (1, .ref s1)]) rfl rfl rfl ?_)
    have lp6360 : ∀ (n6361 : Nat) (v6363 : Int) (v6364 : Int), (0 ≤ v6363 ∧ v6363 ≤ 63) → ((-9223372036854775808) ≤ v6364 ∧ v6364 ≤ 9223372036854775807) → (63 - v6363).toNat = n6361 → wp kt 0 19 15 [(4, vI v6363), (2, vL v6364), (0, .ref r0), (1, .ref s1)] [] T H (q_19 r0 s1 T H) := by
      intro n6361
      induction n6361 using Nat.strongRecOn with
      | _ n6361 ih6362 =>
        intro v6363 v6364 b6367 b6368 m6369
        refine wp_of e19 c19_15 (rw_iload (pc' := 17) (z := v6363) rfl rfl ?_)
        refine wp_of e19 c19_17 (rw_aload_n (pc' := 18) (v := .ref s1) rfl rfl rfl ?_)
        refine wp_of e19 c19_18 (rw_slen (pc' := 21) rfl rfl rfl h1 (Nat.le_of_ble_eq_true rfl) rfl ?_)
        have k6370 := (mc_sb_k h1).2.1
        show wp _ _ 19 21 [(4, vI v6363), (2, vL v6364), (0, .ref r0), (1, .ref s1)] [vI ((t1.length : Int)), vI v6363] _ H _
        refine wp_of e19 c19_21 (rw_icmp_ge (p1 := 49) (p2 := 24) (by decide) rfl ⟨by omega, by omega⟩ ⟨by omega, by omega⟩ (fun c6371 => ?_) (fun c6371 => ?_))
        · refine wp_of e19 c19_49 (rw_lload_n (pc' := 50) (z := v6364) rfl rfl ?_)
          refine wp_of e19 c19_50 (rw_aload_n (pc' := 51) (v := .ref r0) rfl rfl rfl ?_)
          refine wp_of e19 c19_51 (xg_L (pc' := 54) lf_2_32 hW g0 sh_4 (by decide) (by decide) ty_4_6 rfl rfl (fun b6372 b6373 => ?_))
          refine wp_of e19 c19_54 (rw_lcmp (pc' := 55) rfl ⟨by omega, by omega⟩ ⟨by omega, by omega⟩ ?_)
          have b6374 := wq_cmp_b v6364 (H r0 6)
          refine wp_of e19 c19_55 (rw_if_ne (p1 := 62) (p2 := 58) (by decide) rfl ⟨by omega, by omega⟩ (fun c6375 => ?_) (fun c6375 => ?_))
          · refine wp_of e19 c19_62 (rw_iconst (pc' := 63) rfl ?_)
            exact wp_zreturn e19 c19_63 rfl (by omega) ⟨rfl, rfl, 0, rfl, ⟨by omega, by omega⟩⟩
          · refine wp_of e19 c19_58 (rw_iconst (pc' := 59) rfl ?_)
            refine wp_of e19 c19_59 (rw_goto (p1 := 63) (by decide) ?_)
            exact wp_zreturn e19 c19_63 rfl (by omega) ⟨rfl, rfl, 1, rfl, ⟨by omega, by omega⟩⟩
        · refine wp_of e19 c19_24 (rw_lload_n (pc' := 25) (z := v6364) rfl rfl ?_)
          refine wp_of e19 c19_25 (rw_ldc2 (pc' := 28) (z := 32) rfl rfl rfl ?_)
          refine wp_of e19 c19_28 (rw_lmulw (pc' := 29) rfl ?_)
          obtain ⟨v6376, e6377⟩ : ∃ x : Int, x = wl_w (v6364 * 32) := ⟨_, rfl⟩
          rw [← e6377]
          have b6378 : -9223372036854775808 ≤ v6376 ∧ v6376 ≤ 9223372036854775807 := by
            rw [e6377]
            exact wL_w _
          refine wp_of e19 c19_29 (rw_aload_n (pc' := 30) (v := .ref s1) rfl rfl rfl ?_)
          refine wp_of e19 c19_30 (rw_iload (pc' := 32) (z := v6363) rfl rfl ?_)
          refine wp_of e19 c19_32 (rw_schr (pc' := 35) rfl rfl rfl h1 (by omega) (by omega) (Nat.le_of_ble_eq_true rfl) rfl ?_)
          obtain ⟨v6379, e6380⟩ : ∃ x : Int, x = (t1.getD (v6363).toNat 0).toInt := ⟨_, rfl⟩
          rw [← e6380]
          have b6381 : -2147483648 ≤ v6379 ∧ v6379 ≤ 2147483647 := by
            rw [e6380]
            exact wI_of _
          refine wp_of e19 c19_35 (rw_bipush (pc' := 37) (z := 97) rfl (by decide) ?_)
          refine wp_of e19 c19_37 (rw_isubw (pc' := 38) rfl ?_)
          obtain ⟨v6382, e6383⟩ : ∃ x : Int, x = wq_w (v6379 - 97) := ⟨_, rfl⟩
          rw [← e6383]
          have b6384 : -2147483648 ≤ v6382 ∧ v6382 ≤ 2147483647 := by
            rw [e6383]
            exact wI_w _
          refine wp_of e19 c19_38 (rw_iconst (pc' := 39) rfl ?_)
          refine wp_of e19 c19_39 (rw_iaddw (pc' := 40) rfl ?_)
          obtain ⟨v6385, e6386⟩ : ∃ x : Int, x = wq_w (v6382 + 1) := ⟨_, rfl⟩
          rw [← e6386]
          have b6387 : -2147483648 ≤ v6385 ∧ v6385 ≤ 2147483647 := by
            rw [e6386]
            exact wI_w _
          refine wp_of e19 c19_40 (rw_i2l (pc' := 41) rfl ⟨by omega, by omega⟩ ?_)
          refine wp_of e19 c19_41 (rw_laddw (pc' := 42) rfl ?_)
          obtain ⟨v6388, e6389⟩ : ∃ x : Int, x = wl_w (v6376 + v6385) := ⟨_, rfl⟩
          rw [← e6389]
          have b6390 : -9223372036854775808 ≤ v6388 ∧ v6388 ≤ 9223372036854775807 := by
            rw [e6389]
            exact wL_w _
          refine wp_of e19 c19_42 (rw_lstore_n (pc' := 43) (z := v6388) (L' := [(2, vL v6388), (4, vI v6363), (0, .ref r0), (1, .ref s1)]) rfl rfl rfl ?_)
          refine wp_of e19 c19_43 (rw_iinc (pc' := 46) (z := v6363) (L' := [(4, vI (v6363 + 1)), (2, vL v6388), (0, .ref r0), (1, .ref s1)]) rfl rfl rfl rfl ?_)
          refine wp_of e19 c19_46 (rw_goto (p1 := 15) (by decide) ?_)
          exact wp_lc (ks := [4, 2, 0, 1]) (wl_c rfl (wl_c rfl (wl_c rfl (wl_c rfl wl_n)))) rfl (by decide) (ih6362 _ (by omega) (v6363 + 1) v6388 ⟨by omega, by omega⟩ ⟨by omega, by omega⟩ rfl)
    exact wp_lc (ks := [4, 2, 0, 1]) (wl_c rfl (wl_c rfl (wl_c rfl (wl_c rfl wl_n)))) rfl (by decide) (lp6360 _ 0 0 ⟨by omega, by omega⟩ ⟨by omega, by omega⟩ rfl)
  · refine wp_of e19 c19_8 (rw_iconst (pc' := 9) rfl ?_)
    exact wp_zreturn e19 c19_9 rfl (by omega) ⟨rfl, rfl, 0, rfl, ⟨by omega, by omega⟩⟩
/-! StrikeAwake$Reader.reserved()LStrikeAwake$Reserved; -/
theorem e18 : wq_en 18 = some (1, 2, false, some (FieldType.object "StrikeAwake$Reserved")) := rfl
theorem c18_0 : mc_cd 18 0 = some (.iconst 0, 1) := by decide +kernel
theorem c18_1 : mc_cd 18 1 = some (.istore_n 1, 1) := by decide +kernel
theorem c18_2 : mc_cd 18 2 = some (.iload_n 1, 1) := by decide +kernel
theorem c18_3 : mc_cd 18 3 = some (.getstatic 258, 3) := by decide +kernel
theorem c18_6 : mc_cd 18 6 = some (.arraylength, 1) := by decide +kernel
theorem c18_7 : mc_cd 18 7 = some (.if_icmp .ge 33, 3) := by decide +kernel
theorem c18_10 : mc_cd 18 10 = some (.aload_n 0, 1) := by decide +kernel
theorem c18_11 : mc_cd 18 11 = some (.getfield 12, 3) := by decide +kernel
theorem c18_14 : mc_cd 18 14 = some (.getstatic 258, 3) := by decide +kernel
theorem c18_17 : mc_cd 18 17 = some (.iload_n 1, 1) := by decide +kernel
theorem c18_18 : mc_cd 18 18 = some (.aaload, 1) := by decide +kernel
theorem c18_19 : mc_cd 18 19 = some (.getfield 181, 3) := by decide +kernel
theorem c18_22 : mc_cd 18 22 = some (.invokevirtual 185, 3) := by decide +kernel
theorem c18_25 : mc_cd 18 25 = some (.ifCond .eq 9, 3) := by decide +kernel
theorem c18_28 : mc_cd 18 28 = some (.getstatic 258, 3) := by decide +kernel
theorem c18_31 : mc_cd 18 31 = some (.iload_n 1, 1) := by decide +kernel
theorem c18_32 : mc_cd 18 32 = some (.aaload, 1) := by decide +kernel
theorem c18_33 : mc_cd 18 33 = some (.areturn, 1) := by decide +kernel
theorem c18_34 : mc_cd 18 34 = some (.iinc 1 1, 3) := by decide +kernel
theorem c18_37 : mc_cd 18 37 = some (.goto (-35), 3) := by decide +kernel
theorem c18_40 : mc_cd 18 40 = some (.aconst_null, 1) := by decide +kernel
theorem c18_41 : mc_cd 18 41 = some (.areturn, 1) := by decide +kernel
abbrev q_18 (r0 : Nat) (T : wq_T) (H : wq_H) : Option Value → wq_T → wq_H → Prop := fun r T' H' => T = T' ∧ H = H' ∧ (some .null = r ∨ ∃ b : Nat, some (.ref b) = r ∧ 16 ≤ b ∧ b < 27)
set_option maxHeartbeats 4000000 in
theorem s_18 {kt : Nat → Option mc_E} {T : wq_T} {H : wq_H} {r0 : Nat} (hW : WT T H) (g0 : T.2.2.2 r0 = some 3) : wpc kt 2 18 [.ref r0] T H (q_18 r0 T H) := by
  refine wp_enter e18 (Nat.le_of_ble_eq_true rfl) rfl ?_
  show wp _ _ 18 0 [(0, .ref r0)] [] _ H _
  refine wp_of e18 c18_0 (rw_iconst (pc' := 1) rfl ?_)
  refine wp_of e18 c18_1 (rw_istore_n (pc' := 2) (z := 0) (L' := [(1, vI 0), (0, .ref r0)]) rfl rfl rfl ?_)
  have lp7669 : ∀ (n7670 : Nat) (v7672 : Int), (0 ≤ v7672 ∧ v7672 ≤ 11) → (11 - v7672).toNat = n7670 → wp kt 1 18 2 [(1, vI v7672), (0, .ref r0)] [] T H (q_18 r0 T H) := by
    intro n7670
    induction n7670 using Nat.strongRecOn with
    | _ n7670 ih7671 =>
      intro v7672 b7675 m7676
      refine wp_of e18 c18_2 (rw_iload_n (pc' := 3) (z := v7672) rfl rfl ?_)
      refine wp_of e18 c18_3 (rw_gs (pc' := 6) (k := 1) rfl rfl rfl rfl ?_)
      refine wp_of e18 c18_6 (rw_alen (pc' := 7) (n := 11) (hW.sh hW.1.1 rfl) (by decide) rfl ?_)
      refine wp_of e18 c18_7 (rw_icmp_ge (p1 := 40) (p2 := 10) (by decide) rfl ⟨by omega, by omega⟩ ⟨by omega, by omega⟩ (fun c7677 => ?_) (fun c7677 => ?_))
      · refine wp_of e18 c18_40 (rw_null (pc' := 41) rfl ?_)
        exact wp_areturn e18 c18_41 rfl rfl ⟨rfl, rfl, Or.inl rfl⟩
      · refine wp_of e18 c18_10 (rw_aload_n (pc' := 11) (v := .ref r0) rfl rfl rfl ?_)
        refine wp_of e18 c18_11 (xg_R (pc' := 14) lf_1_12 hW g0 sh_3 (by decide) (by decide) ty_3_0 rfl rfl (fun r7678 q7679 g7680 => ?_))
        refine wp_of e18 c18_14 (rw_gs (pc' := 17) (k := 1) rfl rfl rfl rfl ?_)
        refine wp_of e18 c18_17 (rw_iload_n (pc' := 18) (z := v7672) rfl rfl ?_)
        have c7682 : v7672 = 0 ∨ v7672 = 1 ∨ v7672 = 2 ∨ v7672 = 3 ∨ v7672 = 4 ∨ v7672 = 5 ∨ v7672 = 6 ∨ v7672 = 7 ∨ v7672 = 8 ∨ v7672 = 9 ∨ v7672 = 10 := by omega
        rcases c7682 with c7682 | c7682 | c7682 | c7682 | c7682 | c7682 | c7682 | c7682 | c7682 | c7682 | c7682
        · subst c7682
          have k7684 : H 1 (0 : Int).toNat = ((16 : Nat) : Int) := (hW.2 1 _ hW.1.1).2.2 0 (by decide) |> fun z => by have z1 : (16 : Int) ≤ H 1 0 ∧ H 1 0 ≤ 16 := z; exact Int.le_antisymm z1.2 z1.1
          refine wp_of e18 c18_18 (rw_aaload (pc' := 19) (n := 11) (b := 16) (hW.sh hW.1.1 rfl) (by decide) (by decide) (by decide) rfl k7684 rfl ?_)
          have k7685 : H 16 0 = ((32 : Nat) : Int) := (hW.2 16 _ (hW.1.2.2 0 (by decide))).2.2 0 (by decide) |> fun z => by have z1 : (32 : Int) ≤ H 16 0 ∧ H 16 0 ≤ 32 := z; omega
          refine wp_of e18 c18_19 (rw_getR (pc' := 22) (n := 2) (b := 32) (e := _) (lf_1_181).choose_spec.1 (lf_1_181).choose_spec.2.1 (hW.sh (hW.1.2.2 0 (by decide)) rfl) (by decide) rfl k7685 rfl ?_)
          refine wp_of e18 c18_22 (xc_V (pc' := 25) (r := r7678) (as := [.ref 32]) (st := []) (lm_1_185) rfl rfl (Nat.le_of_ble_eq_true rfl) hW g7680 sh_4 (by decide) rfl (by decide) (s_19 hW g7680 rfl) (fun R7686 T7687 H7688 p7689 => ?_))
          obtain ⟨e7690, e7692, z7693, e7691, b7694⟩ := p7689
          subst e7690
          subst e7691
          subst e7692
          show wp _ _ 18 25 [(1, vI 0), (0, .ref r0)] [vI z7693] _ H _
          refine wp_of e18 c18_25 (rw_if_eq (p1 := 34) (p2 := 28) (by decide) rfl ⟨by omega, by omega⟩ (fun c7695 => ?_) (fun c7695 => ?_))
          · refine wp_of e18 c18_34 (rw_iinc (pc' := 37) (z := 0) (L' := [(1, vI (0 + 1)), (0, .ref r0)]) rfl rfl rfl rfl ?_)
            refine wp_of e18 c18_37 (rw_goto (p1 := 2) (by decide) ?_)
            exact wp_lc (ks := [1, 0]) (wl_c rfl (wl_c rfl wl_n)) rfl (by decide) (ih7671 _ (by omega) (0 + 1) ⟨by omega, by omega⟩ rfl)
          · refine wp_of e18 c18_28 (rw_gs (pc' := 31) (k := 1) rfl rfl rfl rfl ?_)
            refine wp_of e18 c18_31 (rw_iload_n (pc' := 32) (z := 0) rfl rfl ?_)
            have k7697 : H 1 (0 : Int).toNat = ((16 : Nat) : Int) := (hW.2 1 _ hW.1.1).2.2 0 (by decide) |> fun z => by have z1 : (16 : Int) ≤ H 1 0 ∧ H 1 0 ≤ 16 := z; exact Int.le_antisymm z1.2 z1.1
            refine wp_of e18 c18_32 (rw_aaload (pc' := 33) (n := 11) (b := 16) (hW.sh hW.1.1 rfl) (by decide) (by decide) (by decide) rfl k7697 rfl ?_)
            exact wp_areturn e18 c18_33 rfl rfl ⟨rfl, rfl, Or.inr ⟨16, rfl, by decide, by decide⟩⟩
        · subst c7682
          have k7699 : H 1 (1 : Int).toNat = ((17 : Nat) : Int) := (hW.2 1 _ hW.1.1).2.2 1 (by decide) |> fun z => by have z1 : (17 : Int) ≤ H 1 1 ∧ H 1 1 ≤ 17 := z; exact Int.le_antisymm z1.2 z1.1
          refine wp_of e18 c18_18 (rw_aaload (pc' := 19) (n := 11) (b := 17) (hW.sh hW.1.1 rfl) (by decide) (by decide) (by decide) rfl k7699 rfl ?_)
          have k7700 : H 17 0 = ((33 : Nat) : Int) := (hW.2 17 _ (hW.1.2.2 1 (by decide))).2.2 0 (by decide) |> fun z => by have z1 : (33 : Int) ≤ H 17 0 ∧ H 17 0 ≤ 33 := z; omega
          refine wp_of e18 c18_19 (rw_getR (pc' := 22) (n := 2) (b := 33) (e := _) (lf_1_181).choose_spec.1 (lf_1_181).choose_spec.2.1 (hW.sh (hW.1.2.2 1 (by decide)) rfl) (by decide) rfl k7700 rfl ?_)
          refine wp_of e18 c18_22 (xc_V (pc' := 25) (r := r7678) (as := [.ref 33]) (st := []) (lm_1_185) rfl rfl (Nat.le_of_ble_eq_true rfl) hW g7680 sh_4 (by decide) rfl (by decide) (s_19 hW g7680 rfl) (fun R7701 T7702 H7703 p7704 => ?_))
          obtain ⟨e7705, e7707, z7708, e7706, b7709⟩ := p7704
          subst e7705
          subst e7706
          subst e7707
          show wp _ _ 18 25 [(1, vI 1), (0, .ref r0)] [vI z7708] _ H _
          refine wp_of e18 c18_25 (rw_if_eq (p1 := 34) (p2 := 28) (by decide) rfl ⟨by omega, by omega⟩ (fun c7710 => ?_) (fun c7710 => ?_))
          · refine wp_of e18 c18_34 (rw_iinc (pc' := 37) (z := 1) (L' := [(1, vI (1 + 1)), (0, .ref r0)]) rfl rfl rfl rfl ?_)
            refine wp_of e18 c18_37 (rw_goto (p1 := 2) (by decide) ?_)
            exact wp_lc (ks := [1, 0]) (wl_c rfl (wl_c rfl wl_n)) rfl (by decide) (ih7671 _ (by omega) (1 + 1) ⟨by omega, by omega⟩ rfl)
          · refine wp_of e18 c18_28 (rw_gs (pc' := 31) (k := 1) rfl rfl rfl rfl ?_)
            refine wp_of e18 c18_31 (rw_iload_n (pc' := 32) (z := 1) rfl rfl ?_)
            have k7712 : H 1 (1 : Int).toNat = ((17 : Nat) : Int) := (hW.2 1 _ hW.1.1).2.2 1 (by decide) |> fun z => by have z1 : (17 : Int) ≤ H 1 1 ∧ H 1 1 ≤ 17 := z; exact Int.le_antisymm z1.2 z1.1
            refine wp_of e18 c18_32 (rw_aaload (pc' := 33) (n := 11) (b := 17) (hW.sh hW.1.1 rfl) (by decide) (by decide) (by decide) rfl k7712 rfl ?_)
            exact wp_areturn e18 c18_33 rfl rfl ⟨rfl, rfl, Or.inr ⟨17, rfl, by decide, by decide⟩⟩
        · subst c7682
          have k7714 : H 1 (2 : Int).toNat = ((18 : Nat) : Int) := (hW.2 1 _ hW.1.1).2.2 2 (by decide) |> fun z => by have z1 : (18 : Int) ≤ H 1 2 ∧ H 1 2 ≤ 18 := z; exact Int.le_antisymm z1.2 z1.1
          refine wp_of e18 c18_18 (rw_aaload (pc' := 19) (n := 11) (b := 18) (hW.sh hW.1.1 rfl) (by decide) (by decide) (by decide) rfl k7714 rfl ?_)
          have k7715 : H 18 0 = ((34 : Nat) : Int) := (hW.2 18 _ (hW.1.2.2 2 (by decide))).2.2 0 (by decide) |> fun z => by have z1 : (34 : Int) ≤ H 18 0 ∧ H 18 0 ≤ 34 := z; omega
          refine wp_of e18 c18_19 (rw_getR (pc' := 22) (n := 2) (b := 34) (e := _) (lf_1_181).choose_spec.1 (lf_1_181).choose_spec.2.1 (hW.sh (hW.1.2.2 2 (by decide)) rfl) (by decide) rfl k7715 rfl ?_)
          refine wp_of e18 c18_22 (xc_V (pc' := 25) (r := r7678) (as := [.ref 34]) (st := []) (lm_1_185) rfl rfl (Nat.le_of_ble_eq_true rfl) hW g7680 sh_4 (by decide) rfl (by decide) (s_19 hW g7680 rfl) (fun R7716 T7717 H7718 p7719 => ?_))
          obtain ⟨e7720, e7722, z7723, e7721, b7724⟩ := p7719
          subst e7720
          subst e7721
          subst e7722
          show wp _ _ 18 25 [(1, vI 2), (0, .ref r0)] [vI z7723] _ H _
          refine wp_of e18 c18_25 (rw_if_eq (p1 := 34) (p2 := 28) (by decide) rfl ⟨by omega, by omega⟩ (fun c7725 => ?_) (fun c7725 => ?_))
          · refine wp_of e18 c18_34 (rw_iinc (pc' := 37) (z := 2) (L' := [(1, vI (2 + 1)), (0, .ref r0)]) rfl rfl rfl rfl ?_)
            refine wp_of e18 c18_37 (rw_goto (p1 := 2) (by decide) ?_)
            exact wp_lc (ks := [1, 0]) (wl_c rfl (wl_c rfl wl_n)) rfl (by decide) (ih7671 _ (by omega) (2 + 1) ⟨by omega, by omega⟩ rfl)
          · refine wp_of e18 c18_28 (rw_gs (pc' := 31) (k := 1) rfl rfl rfl rfl ?_)
            refine wp_of e18 c18_31 (rw_iload_n (pc' := 32) (z := 2) rfl rfl ?_)
            have k7727 : H 1 (2 : Int).toNat = ((18 : Nat) : Int) := (hW.2 1 _ hW.1.1).2.2 2 (by decide) |> fun z => by have z1 : (18 : Int) ≤ H 1 2 ∧ H 1 2 ≤ 18 := z; exact Int.le_antisymm z1.2 z1.1
            refine wp_of e18 c18_32 (rw_aaload (pc' := 33) (n := 11) (b := 18) (hW.sh hW.1.1 rfl) (by decide) (by decide) (by decide) rfl k7727 rfl ?_)
            exact wp_areturn e18 c18_33 rfl rfl ⟨rfl, rfl, Or.inr ⟨18, rfl, by decide, by decide⟩⟩
        · subst c7682
          have k7729 : H 1 (3 : Int).toNat = ((19 : Nat) : Int) := (hW.2 1 _ hW.1.1).2.2 3 (by decide) |> fun z => by have z1 : (19 : Int) ≤ H 1 3 ∧ H 1 3 ≤ 19 := z; exact Int.le_antisymm z1.2 z1.1
          refine wp_of e18 c18_18 (rw_aaload (pc' := 19) (n := 11) (b := 19) (hW.sh hW.1.1 rfl) (by decide) (by decide) (by decide) rfl k7729 rfl ?_)
          have k7730 : H 19 0 = ((35 : Nat) : Int) := (hW.2 19 _ (hW.1.2.2 3 (by decide))).2.2 0 (by decide) |> fun z => by have z1 : (35 : Int) ≤ H 19 0 ∧ H 19 0 ≤ 35 := z; omega
          refine wp_of e18 c18_19 (rw_getR (pc' := 22) (n := 2) (b := 35) (e := _) (lf_1_181).choose_spec.1 (lf_1_181).choose_spec.2.1 (hW.sh (hW.1.2.2 3 (by decide)) rfl) (by decide) rfl k7730 rfl ?_)
          refine wp_of e18 c18_22 (xc_V (pc' := 25) (r := r7678) (as := [.ref 35]) (st := []) (lm_1_185) rfl rfl (Nat.le_of_ble_eq_true rfl) hW g7680 sh_4 (by decide) rfl (by decide) (s_19 hW g7680 rfl) (fun R7731 T7732 H7733 p7734 => ?_))
          obtain ⟨e7735, e7737, z7738, e7736, b7739⟩ := p7734
          subst e7735
          subst e7736
          subst e7737
          show wp _ _ 18 25 [(1, vI 3), (0, .ref r0)] [vI z7738] _ H _
          refine wp_of e18 c18_25 (rw_if_eq (p1 := 34) (p2 := 28) (by decide) rfl ⟨by omega, by omega⟩ (fun c7740 => ?_) (fun c7740 => ?_))
          · refine wp_of e18 c18_34 (rw_iinc (pc' := 37) (z := 3) (L' := [(1, vI (3 + 1)), (0, .ref r0)]) rfl rfl rfl rfl ?_)
            refine wp_of e18 c18_37 (rw_goto (p1 := 2) (by decide) ?_)
            exact wp_lc (ks := [1, 0]) (wl_c rfl (wl_c rfl wl_n)) rfl (by decide) (ih7671 _ (by omega) (3 + 1) ⟨by omega, by omega⟩ rfl)
          · refine wp_of e18 c18_28 (rw_gs (pc' := 31) (k := 1) rfl rfl rfl rfl ?_)
            refine wp_of e18 c18_31 (rw_iload_n (pc' := 32) (z := 3) rfl rfl ?_)
            have k7742 : H 1 (3 : Int).toNat = ((19 : Nat) : Int) := (hW.2 1 _ hW.1.1).2.2 3 (by decide) |> fun z => by have z1 : (19 : Int) ≤ H 1 3 ∧ H 1 3 ≤ 19 := z; exact Int.le_antisymm z1.2 z1.1
            refine wp_of e18 c18_32 (rw_aaload (pc' := 33) (n := 11) (b := 19) (hW.sh hW.1.1 rfl) (by decide) (by decide) (by decide) rfl k7742 rfl ?_)
            exact wp_areturn e18 c18_33 rfl rfl ⟨rfl, rfl, Or.inr ⟨19, rfl, by decide, by decide⟩⟩
        · subst c7682
          have k7744 : H 1 (4 : Int).toNat = ((20 : Nat) : Int) := (hW.2 1 _ hW.1.1).2.2 4 (by decide) |> fun z => by have z1 : (20 : Int) ≤ H 1 4 ∧ H 1 4 ≤ 20 := z; exact Int.le_antisymm z1.2 z1.1
          refine wp_of e18 c18_18 (rw_aaload (pc' := 19) (n := 11) (b := 20) (hW.sh hW.1.1 rfl) (by decide) (by decide) (by decide) rfl k7744 rfl ?_)
          have k7745 : H 20 0 = ((36 : Nat) : Int) := (hW.2 20 _ (hW.1.2.2 4 (by decide))).2.2 0 (by decide) |> fun z => by have z1 : (36 : Int) ≤ H 20 0 ∧ H 20 0 ≤ 36 := z; omega
          refine wp_of e18 c18_19 (rw_getR (pc' := 22) (n := 2) (b := 36) (e := _) (lf_1_181).choose_spec.1 (lf_1_181).choose_spec.2.1 (hW.sh (hW.1.2.2 4 (by decide)) rfl) (by decide) rfl k7745 rfl ?_)
          refine wp_of e18 c18_22 (xc_V (pc' := 25) (r := r7678) (as := [.ref 36]) (st := []) (lm_1_185) rfl rfl (Nat.le_of_ble_eq_true rfl) hW g7680 sh_4 (by decide) rfl (by decide) (s_19 hW g7680 rfl) (fun R7746 T7747 H7748 p7749 => ?_))
          obtain ⟨e7750, e7752, z7753, e7751, b7754⟩ := p7749
          subst e7750
          subst e7751
          subst e7752
          show wp _ _ 18 25 [(1, vI 4), (0, .ref r0)] [vI z7753] _ H _
          refine wp_of e18 c18_25 (rw_if_eq (p1 := 34) (p2 := 28) (by decide) rfl ⟨by omega, by omega⟩ (fun c7755 => ?_) (fun c7755 => ?_))
          · refine wp_of e18 c18_34 (rw_iinc (pc' := 37) (z := 4) (L' := [(1, vI (4 + 1)), (0, .ref r0)]) rfl rfl rfl rfl ?_)
            refine wp_of e18 c18_37 (rw_goto (p1 := 2) (by decide) ?_)
            exact wp_lc (ks := [1, 0]) (wl_c rfl (wl_c rfl wl_n)) rfl (by decide) (ih7671 _ (by omega) (4 + 1) ⟨by omega, by omega⟩ rfl)
          · refine wp_of e18 c18_28 (rw_gs (pc' := 31) (k := 1) rfl rfl rfl rfl ?_)
            refine wp_of e18 c18_31 (rw_iload_n (pc' := 32) (z := 4) rfl rfl ?_)
            have k7757 : H 1 (4 : Int).toNat = ((20 : Nat) : Int) := (hW.2 1 _ hW.1.1).2.2 4 (by decide) |> fun z => by have z1 : (20 : Int) ≤ H 1 4 ∧ H 1 4 ≤ 20 := z; exact Int.le_antisymm z1.2 z1.1
            refine wp_of e18 c18_32 (rw_aaload (pc' := 33) (n := 11) (b := 20) (hW.sh hW.1.1 rfl) (by decide) (by decide) (by decide) rfl k7757 rfl ?_)
            exact wp_areturn e18 c18_33 rfl rfl ⟨rfl, rfl, Or.inr ⟨20, rfl, by decide, by decide⟩⟩
        · subst c7682
          have k7759 : H 1 (5 : Int).toNat = ((21 : Nat) : Int) := (hW.2 1 _ hW.1.1).2.2 5 (by decide) |> fun z => by have z1 : (21 : Int) ≤ H 1 5 ∧ H 1 5 ≤ 21 := z; exact Int.le_antisymm z1.2 z1.1
          refine wp_of e18 c18_18 (rw_aaload (pc' := 19) (n := 11) (b := 21) (hW.sh hW.1.1 rfl) (by decide) (by decide) (by decide) rfl k7759 rfl ?_)
          have k7760 : H 21 0 = ((37 : Nat) : Int) := (hW.2 21 _ (hW.1.2.2 5 (by decide))).2.2 0 (by decide) |> fun z => by have z1 : (37 : Int) ≤ H 21 0 ∧ H 21 0 ≤ 37 := z; omega
          refine wp_of e18 c18_19 (rw_getR (pc' := 22) (n := 2) (b := 37) (e := _) (lf_1_181).choose_spec.1 (lf_1_181).choose_spec.2.1 (hW.sh (hW.1.2.2 5 (by decide)) rfl) (by decide) rfl k7760 rfl ?_)
          refine wp_of e18 c18_22 (xc_V (pc' := 25) (r := r7678) (as := [.ref 37]) (st := []) (lm_1_185) rfl rfl (Nat.le_of_ble_eq_true rfl) hW g7680 sh_4 (by decide) rfl (by decide) (s_19 hW g7680 rfl) (fun R7761 T7762 H7763 p7764 => ?_))
          obtain ⟨e7765, e7767, z7768, e7766, b7769⟩ := p7764
          subst e7765
          subst e7766
          subst e7767
          show wp _ _ 18 25 [(1, vI 5), (0, .ref r0)] [vI z7768] _ H _
          refine wp_of e18 c18_25 (rw_if_eq (p1 := 34) (p2 := 28) (by decide) rfl ⟨by omega, by omega⟩ (fun c7770 => ?_) (fun c7770 => ?_))
          · refine wp_of e18 c18_34 (rw_iinc (pc' := 37) (z := 5) (L' := [(1, vI (5 + 1)), (0, .ref r0)]) rfl rfl rfl rfl ?_)
            refine wp_of e18 c18_37 (rw_goto (p1 := 2) (by decide) ?_)
            exact wp_lc (ks := [1, 0]) (wl_c rfl (wl_c rfl wl_n)) rfl (by decide) (ih7671 _ (by omega) (5 + 1) ⟨by omega, by omega⟩ rfl)
          · refine wp_of e18 c18_28 (rw_gs (pc' := 31) (k := 1) rfl rfl rfl rfl ?_)
            refine wp_of e18 c18_31 (rw_iload_n (pc' := 32) (z := 5) rfl rfl ?_)
            have k7772 : H 1 (5 : Int).toNat = ((21 : Nat) : Int) := (hW.2 1 _ hW.1.1).2.2 5 (by decide) |> fun z => by have z1 : (21 : Int) ≤ H 1 5 ∧ H 1 5 ≤ 21 := z; exact Int.le_antisymm z1.2 z1.1
            refine wp_of e18 c18_32 (rw_aaload (pc' := 33) (n := 11) (b := 21) (hW.sh hW.1.1 rfl) (by decide) (by decide) (by decide) rfl k7772 rfl ?_)
            exact wp_areturn e18 c18_33 rfl rfl ⟨rfl, rfl, Or.inr ⟨21, rfl, by decide, by decide⟩⟩
        · subst c7682
          have k7774 : H 1 (6 : Int).toNat = ((22 : Nat) : Int) := (hW.2 1 _ hW.1.1).2.2 6 (by decide) |> fun z => by have z1 : (22 : Int) ≤ H 1 6 ∧ H 1 6 ≤ 22 := z; exact Int.le_antisymm z1.2 z1.1
          refine wp_of e18 c18_18 (rw_aaload (pc' := 19) (n := 11) (b := 22) (hW.sh hW.1.1 rfl) (by decide) (by decide) (by decide) rfl k7774 rfl ?_)
          have k7775 : H 22 0 = ((38 : Nat) : Int) := (hW.2 22 _ (hW.1.2.2 6 (by decide))).2.2 0 (by decide) |> fun z => by have z1 : (38 : Int) ≤ H 22 0 ∧ H 22 0 ≤ 38 := z; omega
          refine wp_of e18 c18_19 (rw_getR (pc' := 22) (n := 2) (b := 38) (e := _) (lf_1_181).choose_spec.1 (lf_1_181).choose_spec.2.1 (hW.sh (hW.1.2.2 6 (by decide)) rfl) (by decide) rfl k7775 rfl ?_)
          refine wp_of e18 c18_22 (xc_V (pc' := 25) (r := r7678) (as := [.ref 38]) (st := []) (lm_1_185) rfl rfl (Nat.le_of_ble_eq_true rfl) hW g7680 sh_4 (by decide) rfl (by decide) (s_19 hW g7680 rfl) (fun R7776 T7777 H7778 p7779 => ?_))
          obtain ⟨e7780, e7782, z7783, e7781, b7784⟩ := p7779
          subst e7780
          subst e7781
          subst e7782
          show wp _ _ 18 25 [(1, vI 6), (0, .ref r0)] [vI z7783] _ H _
          refine wp_of e18 c18_25 (rw_if_eq (p1 := 34) (p2 := 28) (by decide) rfl ⟨by omega, by omega⟩ (fun c7785 => ?_) (fun c7785 => ?_))
          · refine wp_of e18 c18_34 (rw_iinc (pc' := 37) (z := 6) (L' := [(1, vI (6 + 1)), (0, .ref r0)]) rfl rfl rfl rfl ?_)
            refine wp_of e18 c18_37 (rw_goto (p1 := 2) (by decide) ?_)
            exact wp_lc (ks := [1, 0]) (wl_c rfl (wl_c rfl wl_n)) rfl (by decide) (ih7671 _ (by omega) (6 + 1) ⟨by omega, by omega⟩ rfl)
          · refine wp_of e18 c18_28 (rw_gs (pc' := 31) (k := 1) rfl rfl rfl rfl ?_)
            refine wp_of e18 c18_31 (rw_iload_n (pc' := 32) (z := 6) rfl rfl ?_)
            have k7787 : H 1 (6 : Int).toNat = ((22 : Nat) : Int) := (hW.2 1 _ hW.1.1).2.2 6 (by decide) |> fun z => by have z1 : (22 : Int) ≤ H 1 6 ∧ H 1 6 ≤ 22 := z; exact Int.le_antisymm z1.2 z1.1
            refine wp_of e18 c18_32 (rw_aaload (pc' := 33) (n := 11) (b := 22) (hW.sh hW.1.1 rfl) (by decide) (by decide) (by decide) rfl k7787 rfl ?_)
            exact wp_areturn e18 c18_33 rfl rfl ⟨rfl, rfl, Or.inr ⟨22, rfl, by decide, by decide⟩⟩
        · subst c7682
          have k7789 : H 1 (7 : Int).toNat = ((23 : Nat) : Int) := (hW.2 1 _ hW.1.1).2.2 7 (by decide) |> fun z => by have z1 : (23 : Int) ≤ H 1 7 ∧ H 1 7 ≤ 23 := z; exact Int.le_antisymm z1.2 z1.1
          refine wp_of e18 c18_18 (rw_aaload (pc' := 19) (n := 11) (b := 23) (hW.sh hW.1.1 rfl) (by decide) (by decide) (by decide) rfl k7789 rfl ?_)
          have k7790 : H 23 0 = ((39 : Nat) : Int) := (hW.2 23 _ (hW.1.2.2 7 (by decide))).2.2 0 (by decide) |> fun z => by have z1 : (39 : Int) ≤ H 23 0 ∧ H 23 0 ≤ 39 := z; omega
          refine wp_of e18 c18_19 (rw_getR (pc' := 22) (n := 2) (b := 39) (e := _) (lf_1_181).choose_spec.1 (lf_1_181).choose_spec.2.1 (hW.sh (hW.1.2.2 7 (by decide)) rfl) (by decide) rfl k7790 rfl ?_)
          refine wp_of e18 c18_22 (xc_V (pc' := 25) (r := r7678) (as := [.ref 39]) (st := []) (lm_1_185) rfl rfl (Nat.le_of_ble_eq_true rfl) hW g7680 sh_4 (by decide) rfl (by decide) (s_19 hW g7680 rfl) (fun R7791 T7792 H7793 p7794 => ?_))
          obtain ⟨e7795, e7797, z7798, e7796, b7799⟩ := p7794
          subst e7795
          subst e7796
          subst e7797
          show wp _ _ 18 25 [(1, vI 7), (0, .ref r0)] [vI z7798] _ H _
          refine wp_of e18 c18_25 (rw_if_eq (p1 := 34) (p2 := 28) (by decide) rfl ⟨by omega, by omega⟩ (fun c7800 => ?_) (fun c7800 => ?_))
          · refine wp_of e18 c18_34 (rw_iinc (pc' := 37) (z := 7) (L' := [(1, vI (7 + 1)), (0, .ref r0)]) rfl rfl rfl rfl ?_)
            refine wp_of e18 c18_37 (rw_goto (p1 := 2) (by decide) ?_)
            exact wp_lc (ks := [1, 0]) (wl_c rfl (wl_c rfl wl_n)) rfl (by decide) (ih7671 _ (by omega) (7 + 1) ⟨by omega, by omega⟩ rfl)
          · refine wp_of e18 c18_28 (rw_gs (pc' := 31) (k := 1) rfl rfl rfl rfl ?_)
            refine wp_of e18 c18_31 (rw_iload_n (pc' := 32) (z := 7) rfl rfl ?_)
            have k7802 : H 1 (7 : Int).toNat = ((23 : Nat) : Int) := (hW.2 1 _ hW.1.1).2.2 7 (by decide) |> fun z => by have z1 : (23 : Int) ≤ H 1 7 ∧ H 1 7 ≤ 23 := z; exact Int.le_antisymm z1.2 z1.1
            refine wp_of e18 c18_32 (rw_aaload (pc' := 33) (n := 11) (b := 23) (hW.sh hW.1.1 rfl) (by decide) (by decide) (by decide) rfl k7802 rfl ?_)
            exact wp_areturn e18 c18_33 rfl rfl ⟨rfl, rfl, Or.inr ⟨23, rfl, by decide, by decide⟩⟩
        · subst c7682
          have k7804 : H 1 (8 : Int).toNat = ((24 : Nat) : Int) := (hW.2 1 _ hW.1.1).2.2 8 (by decide) |> fun z => by have z1 : (24 : Int) ≤ H 1 8 ∧ H 1 8 ≤ 24 := z; exact Int.le_antisymm z1.2 z1.1
          refine wp_of e18 c18_18 (rw_aaload (pc' := 19) (n := 11) (b := 24) (hW.sh hW.1.1 rfl) (by decide) (by decide) (by decide) rfl k7804 rfl ?_)
          have k7805 : H 24 0 = ((40 : Nat) : Int) := (hW.2 24 _ (hW.1.2.2 8 (by decide))).2.2 0 (by decide) |> fun z => by have z1 : (40 : Int) ≤ H 24 0 ∧ H 24 0 ≤ 40 := z; omega
          refine wp_of e18 c18_19 (rw_getR (pc' := 22) (n := 2) (b := 40) (e := _) (lf_1_181).choose_spec.1 (lf_1_181).choose_spec.2.1 (hW.sh (hW.1.2.2 8 (by decide)) rfl) (by decide) rfl k7805 rfl ?_)
          refine wp_of e18 c18_22 (xc_V (pc' := 25) (r := r7678) (as := [.ref 40]) (st := []) (lm_1_185) rfl rfl (Nat.le_of_ble_eq_true rfl) hW g7680 sh_4 (by decide) rfl (by decide) (s_19 hW g7680 rfl) (fun R7806 T7807 H7808 p7809 => ?_))
          obtain ⟨e7810, e7812, z7813, e7811, b7814⟩ := p7809
          subst e7810
          subst e7811
          subst e7812
          show wp _ _ 18 25 [(1, vI 8), (0, .ref r0)] [vI z7813] _ H _
          refine wp_of e18 c18_25 (rw_if_eq (p1 := 34) (p2 := 28) (by decide) rfl ⟨by omega, by omega⟩ (fun c7815 => ?_) (fun c7815 => ?_))
          · refine wp_of e18 c18_34 (rw_iinc (pc' := 37) (z := 8) (L' := [(1, vI (8 + 1)), (0, .ref r0)]) rfl rfl rfl rfl ?_)
            refine wp_of e18 c18_37 (rw_goto (p1 := 2) (by decide) ?_)
            exact wp_lc (ks := [1, 0]) (wl_c rfl (wl_c rfl wl_n)) rfl (by decide) (ih7671 _ (by omega) (8 + 1) ⟨by omega, by omega⟩ rfl)
          · refine wp_of e18 c18_28 (rw_gs (pc' := 31) (k := 1) rfl rfl rfl rfl ?_)
            refine wp_of e18 c18_31 (rw_iload_n (pc' := 32) (z := 8) rfl rfl ?_)
            have k7817 : H 1 (8 : Int).toNat = ((24 : Nat) : Int) := (hW.2 1 _ hW.1.1).2.2 8 (by decide) |> fun z => by have z1 : (24 : Int) ≤ H 1 8 ∧ H 1 8 ≤ 24 := z; exact Int.le_antisymm z1.2 z1.1
            refine wp_of e18 c18_32 (rw_aaload (pc' := 33) (n := 11) (b := 24) (hW.sh hW.1.1 rfl) (by decide) (by decide) (by decide) rfl k7817 rfl ?_)
            exact wp_areturn e18 c18_33 rfl rfl ⟨rfl, rfl, Or.inr ⟨24, rfl, by decide, by decide⟩⟩
        · subst c7682
          have k7819 : H 1 (9 : Int).toNat = ((25 : Nat) : Int) := (hW.2 1 _ hW.1.1).2.2 9 (by decide) |> fun z => by have z1 : (25 : Int) ≤ H 1 9 ∧ H 1 9 ≤ 25 := z; exact Int.le_antisymm z1.2 z1.1
          refine wp_of e18 c18_18 (rw_aaload (pc' := 19) (n := 11) (b := 25) (hW.sh hW.1.1 rfl) (by decide) (by decide) (by decide) rfl k7819 rfl ?_)
          have k7820 : H 25 0 = ((41 : Nat) : Int) := (hW.2 25 _ (hW.1.2.2 9 (by decide))).2.2 0 (by decide) |> fun z => by have z1 : (41 : Int) ≤ H 25 0 ∧ H 25 0 ≤ 41 := z; omega
          refine wp_of e18 c18_19 (rw_getR (pc' := 22) (n := 2) (b := 41) (e := _) (lf_1_181).choose_spec.1 (lf_1_181).choose_spec.2.1 (hW.sh (hW.1.2.2 9 (by decide)) rfl) (by decide) rfl k7820 rfl ?_)
          refine wp_of e18 c18_22 (xc_V (pc' := 25) (r := r7678) (as := [.ref 41]) (st := []) (lm_1_185) rfl rfl (Nat.le_of_ble_eq_true rfl) hW g7680 sh_4 (by decide) rfl (by decide) (s_19 hW g7680 rfl) (fun R7821 T7822 H7823 p7824 => ?_))
          obtain ⟨e7825, e7827, z7828, e7826, b7829⟩ := p7824
          subst e7825
          subst e7826
          subst e7827
          show wp _ _ 18 25 [(1, vI 9), (0, .ref r0)] [vI z7828] _ H _
          refine wp_of e18 c18_25 (rw_if_eq (p1 := 34) (p2 := 28) (by decide) rfl ⟨by omega, by omega⟩ (fun c7830 => ?_) (fun c7830 => ?_))
          · refine wp_of e18 c18_34 (rw_iinc (pc' := 37) (z := 9) (L' := [(1, vI (9 + 1)), (0, .ref r0)]) rfl rfl rfl rfl ?_)
            refine wp_of e18 c18_37 (rw_goto (p1 := 2) (by decide) ?_)
            exact wp_lc (ks := [1, 0]) (wl_c rfl (wl_c rfl wl_n)) rfl (by decide) (ih7671 _ (by omega) (9 + 1) ⟨by omega, by omega⟩ rfl)
          · refine wp_of e18 c18_28 (rw_gs (pc' := 31) (k := 1) rfl rfl rfl rfl ?_)
            refine wp_of e18 c18_31 (rw_iload_n (pc' := 32) (z := 9) rfl rfl ?_)
            have k7832 : H 1 (9 : Int).toNat = ((25 : Nat) : Int) := (hW.2 1 _ hW.1.1).2.2 9 (by decide) |> fun z => by have z1 : (25 : Int) ≤ H 1 9 ∧ H 1 9 ≤ 25 := z; exact Int.le_antisymm z1.2 z1.1
            refine wp_of e18 c18_32 (rw_aaload (pc' := 33) (n := 11) (b := 25) (hW.sh hW.1.1 rfl) (by decide) (by decide) (by decide) rfl k7832 rfl ?_)
            exact wp_areturn e18 c18_33 rfl rfl ⟨rfl, rfl, Or.inr ⟨25, rfl, by decide, by decide⟩⟩
        · subst c7682
          have k7834 : H 1 (10 : Int).toNat = ((26 : Nat) : Int) := (hW.2 1 _ hW.1.1).2.2 10 (by decide) |> fun z => by have z1 : (26 : Int) ≤ H 1 10 ∧ H 1 10 ≤ 26 := z; exact Int.le_antisymm z1.2 z1.1
          refine wp_of e18 c18_18 (rw_aaload (pc' := 19) (n := 11) (b := 26) (hW.sh hW.1.1 rfl) (by decide) (by decide) (by decide) rfl k7834 rfl ?_)
          have k7835 : H 26 0 = ((42 : Nat) : Int) := (hW.2 26 _ (hW.1.2.2 10 (by decide))).2.2 0 (by decide) |> fun z => by have z1 : (42 : Int) ≤ H 26 0 ∧ H 26 0 ≤ 42 := z; omega
          refine wp_of e18 c18_19 (rw_getR (pc' := 22) (n := 2) (b := 42) (e := _) (lf_1_181).choose_spec.1 (lf_1_181).choose_spec.2.1 (hW.sh (hW.1.2.2 10 (by decide)) rfl) (by decide) rfl k7835 rfl ?_)
          refine wp_of e18 c18_22 (xc_V (pc' := 25) (r := r7678) (as := [.ref 42]) (st := []) (lm_1_185) rfl rfl (Nat.le_of_ble_eq_true rfl) hW g7680 sh_4 (by decide) rfl (by decide) (s_19 hW g7680 rfl) (fun R7836 T7837 H7838 p7839 => ?_))
          obtain ⟨e7840, e7842, z7843, e7841, b7844⟩ := p7839
          subst e7840
          subst e7841
          subst e7842
          show wp _ _ 18 25 [(1, vI 10), (0, .ref r0)] [vI z7843] _ H _
          refine wp_of e18 c18_25 (rw_if_eq (p1 := 34) (p2 := 28) (by decide) rfl ⟨by omega, by omega⟩ (fun c7845 => ?_) (fun c7845 => ?_))
          · refine wp_of e18 c18_34 (rw_iinc (pc' := 37) (z := 10) (L' := [(1, vI (10 + 1)), (0, .ref r0)]) rfl rfl rfl rfl ?_)
            refine wp_of e18 c18_37 (rw_goto (p1 := 2) (by decide) ?_)
            exact wp_lc (ks := [1, 0]) (wl_c rfl (wl_c rfl wl_n)) rfl (by decide) (ih7671 _ (by omega) (10 + 1) ⟨by omega, by omega⟩ rfl)
          · refine wp_of e18 c18_28 (rw_gs (pc' := 31) (k := 1) rfl rfl rfl rfl ?_)
            refine wp_of e18 c18_31 (rw_iload_n (pc' := 32) (z := 10) rfl rfl ?_)
            have k7847 : H 1 (10 : Int).toNat = ((26 : Nat) : Int) := (hW.2 1 _ hW.1.1).2.2 10 (by decide) |> fun z => by have z1 : (26 : Int) ≤ H 1 10 ∧ H 1 10 ≤ 26 := z; exact Int.le_antisymm z1.2 z1.1
            refine wp_of e18 c18_32 (rw_aaload (pc' := 33) (n := 11) (b := 26) (hW.sh hW.1.1 rfl) (by decide) (by decide) (by decide) rfl k7847 rfl ?_)
            exact wp_areturn e18 c18_33 rfl rfl ⟨rfl, rfl, Or.inr ⟨26, rfl, by decide, by decide⟩⟩
  exact wp_lc (ks := [1, 0]) (wl_c rfl (wl_c rfl wl_n)) rfl (by decide) (lp7669 _ 0 ⟨by omega, by omega⟩ rfl)
/-! StrikeAwake$Reader.fail(I)Z -/
theorem e20 : wq_en 20 = some (1, 2, false, some FieldType.boolean) := rfl
theorem c20_0 : mc_cd 20 0 = some (.aload_n 0, 1) := by decide +kernel
theorem c20_1 : mc_cd 20 1 = some (.iload_n 1, 1) := by decide +kernel
theorem c20_2 : mc_cd 20 2 = some (.putfield 18, 3) := by decide +kernel
theorem c20_5 : mc_cd 20 5 = some (.aload_n 0, 1) := by decide +kernel
theorem c20_6 : mc_cd 20 6 = some (.aload_n 0, 1) := by decide +kernel
theorem c20_7 : mc_cd 20 7 = some (.getfield 12, 3) := by decide +kernel
theorem c20_10 : mc_cd 20 10 = some (.getfield 257, 3) := by decide +kernel
theorem c20_13 : mc_cd 20 13 = some (.putfield 22, 3) := by decide +kernel
theorem c20_16 : mc_cd 20 16 = some (.iconst 0, 1) := by decide +kernel
theorem c20_17 : mc_cd 20 17 = some (.ireturn, 1) := by decide +kernel
abbrev q_20 (r0 : Nat) (a1 : Int) (T : wq_T) (H : wq_H) : Option Value → wq_T → wq_H → Prop := fun r T' H' => T = T' ∧ WT T H' ∧ wfr [(3, 3), (3, 4)] T H H' ∧ ∃ z : Int, some (vI z) = r ∧ (0 ≤ z ∧ z ≤ 1)
set_option maxHeartbeats 4000000 in
theorem s_20 {kt : Nat → Option mc_E} {T : wq_T} {H : wq_H} {r0 : Nat} {a1 : Int} (hW : WT T H) (g0 : T.2.2.2 r0 = some 3) (i1 : (-2147483648) ≤ a1 ∧ a1 ≤ 2147483647) : wpc kt 1 20 [.ref r0, vI a1] T H (q_20 r0 a1 T H) := by
  refine wp_enter e20 (Nat.le_of_ble_eq_true rfl) rfl ?_
  have f0 : wfr [(3, 3), (3, 4)] T H H := wfr.rf
  show wp _ _ 20 0 [(0, .ref r0), (1, vI a1)] [] _ H _
  refine wp_of e20 c20_0 (rw_aload_n (pc' := 1) (v := .ref r0) rfl rfl rfl ?_)
  refine wp_of e20 c20_1 (rw_iload_n (pc' := 2) (z := a1) rfl rfl ?_)
  refine wp_of e20 c20_2 (xp_I (pc' := 5) lf_1_18 hW g0 sh_3 (by decide) (by decide) ty_3_3 rfl rfl (by omega) (by omega) ⟨by omega, by omega⟩ rfl (fun H7863 e7864 w7865 => ?_))
  have f7866 := f0.put' e7864 g0 rfl
  have k7867 : H7863 r0 3 = a1 := wq_u_s e7864
  refine wp_of e20 c20_5 (rw_aload_n (pc' := 6) (v := .ref r0) rfl rfl rfl ?_)
  refine wp_of e20 c20_6 (rw_aload_n (pc' := 7) (v := .ref r0) rfl rfl rfl ?_)
  refine wp_of e20 c20_7 (xg_R (pc' := 10) lf_1_12 w7865 g0 sh_3 (by decide) (by decide) ty_3_0 rfl rfl (fun r7868 q7869 g7870 => ?_))
  refine wp_of e20 c20_10 (xg_I (pc' := 13) lf_1_257 w7865 g7870 sh_4 (by decide) (by decide) ty_4_4 rfl rfl (fun b7871 b7872 => ?_))
  refine wp_of e20 c20_13 (xp_I (pc' := 16) lf_1_22 w7865 g0 sh_3 (by decide) (by decide) ty_3_4 rfl rfl (by omega) (by omega) ⟨by omega, by omega⟩ rfl (fun H7873 e7874 w7875 => ?_))
  have f7876 := f7866.put' e7874 g0 rfl
  have k7877 : H7873 r0 4 = H7863 r7868 4 := wq_u_s e7874
  refine wp_of e20 c20_16 (rw_iconst (pc' := 17) rfl ?_)
  exact wp_zreturn e20 c20_17 rfl (by omega) ⟨rfl, w7875, f7876, 0, rfl, ⟨by omega, by omega⟩⟩
/-! StrikeAwake$Parish.linesOf(LStrikeAwake$Reserved;)I -/
theorem e21 : wq_en 21 = some (7, 2, false, some FieldType.int) := rfl
theorem c21_0 : mc_cd 21 0 = some (.getstatic 75, 3) := by decide +kernel
theorem c21_3 : mc_cd 21 3 = some (.aload_n 1, 1) := by decide +kernel
theorem c21_4 : mc_cd 21 4 = some (.invokevirtual 80, 3) := by decide +kernel
theorem c21_7 : mc_cd 21 7 = some (.iaload, 1) := by decide +kernel
theorem c21_8 : mc_cd 21 8 = some (.tableswitch 104 1 8 #[48, 61, 66, 79, 84, 89, 94, 99], 48) := by decide +kernel
theorem c21_56 : mc_cd 21 56 = some (.aload_n 0, 1) := by decide +kernel
theorem c21_57 : mc_cd 21 57 = some (.getfield 41, 3) := by decide +kernel
theorem c21_60 : mc_cd 21 60 = some (.ifCond .le 7, 3) := by decide +kernel
theorem c21_63 : mc_cd 21 63 = some (.iconst 1, 1) := by decide +kernel
theorem c21_64 : mc_cd 21 64 = some (.goto 4, 3) := by decide +kernel
theorem c21_67 : mc_cd 21 67 = some (.iconst 0, 1) := by decide +kernel
theorem c21_68 : mc_cd 21 68 = some (.ireturn, 1) := by decide +kernel
theorem c21_69 : mc_cd 21 69 = some (.aload_n 0, 1) := by decide +kernel
theorem c21_70 : mc_cd 21 70 = some (.getfield 50, 3) := by decide +kernel
theorem c21_73 : mc_cd 21 73 = some (.ireturn, 1) := by decide +kernel
theorem c21_74 : mc_cd 21 74 = some (.aload_n 0, 1) := by decide +kernel
theorem c21_75 : mc_cd 21 75 = some (.getfield 37, 3) := by decide +kernel
theorem c21_78 : mc_cd 21 78 = some (.ifCond .lt 7, 3) := by decide +kernel
theorem c21_81 : mc_cd 21 81 = some (.iconst 1, 1) := by decide +kernel
theorem c21_82 : mc_cd 21 82 = some (.goto 4, 3) := by decide +kernel
theorem c21_85 : mc_cd 21 85 = some (.iconst 0, 1) := by decide +kernel
theorem c21_86 : mc_cd 21 86 = some (.ireturn, 1) := by decide +kernel
theorem c21_87 : mc_cd 21 87 = some (.aload_n 0, 1) := by decide +kernel
theorem c21_88 : mc_cd 21 88 = some (.getfield 53, 3) := by decide +kernel
theorem c21_91 : mc_cd 21 91 = some (.ireturn, 1) := by decide +kernel
theorem c21_92 : mc_cd 21 92 = some (.aload_n 0, 1) := by decide +kernel
theorem c21_93 : mc_cd 21 93 = some (.getfield 56, 3) := by decide +kernel
theorem c21_96 : mc_cd 21 96 = some (.ireturn, 1) := by decide +kernel
theorem c21_97 : mc_cd 21 97 = some (.aload_n 0, 1) := by decide +kernel
theorem c21_98 : mc_cd 21 98 = some (.getfield 65, 3) := by decide +kernel
theorem c21_101 : mc_cd 21 101 = some (.ireturn, 1) := by decide +kernel
theorem c21_102 : mc_cd 21 102 = some (.aload_n 0, 1) := by decide +kernel
theorem c21_103 : mc_cd 21 103 = some (.getfield 59, 3) := by decide +kernel
theorem c21_106 : mc_cd 21 106 = some (.ireturn, 1) := by decide +kernel
theorem c21_107 : mc_cd 21 107 = some (.aload_n 0, 1) := by decide +kernel
theorem c21_108 : mc_cd 21 108 = some (.getfield 62, 3) := by decide +kernel
theorem c21_111 : mc_cd 21 111 = some (.ireturn, 1) := by decide +kernel
theorem c21_112 : mc_cd 21 112 = some (.iconst 0, 1) := by decide +kernel
theorem c21_113 : mc_cd 21 113 = some (.ireturn, 1) := by decide +kernel
abbrev q_21_16 (r0 : Nat) (T : wq_T) (H : wq_H) : Option Value → wq_T → wq_H → Prop := fun r T' H' => T = T' ∧ H = H' ∧ ∃ z : Int, some (vI z) = r ∧ ((-2147483648) ≤ z ∧ z ≤ 2147483647) ∧ (0 ≤ z ∧ z ≤ 1)
set_option maxHeartbeats 4000000 in
theorem s_21_16 {kt : Nat → Option mc_E} {T : wq_T} {H : wq_H} {r0 : Nat} (hW : WT T H) (g0 : T.2.2.2 r0 = some 27) : wpc kt 1 21 [.ref r0, .ref 16] T H (q_21_16 r0 T H) := by
  refine wp_enter e21 (Nat.le_of_ble_eq_true rfl) rfl ?_
  show wp _ _ 21 0 [(0, .ref r0), (1, .ref 16)] [] _ H _
  refine wp_of e21 c21_0 (rw_gs (pc' := 3) (k := 2) rfl rfl rfl rfl ?_)
  refine wp_of e21 c21_3 (rw_aload_n (pc' := 4) (v := .ref 16) rfl rfl rfl ?_)
  refine wp_of e21 c21_4 (rw_ord (pc' := 7) rfl rfl rfl (by decide) (Nat.le_of_ble_eq_true rfl) rfl ?_)
  show wp _ _ 21 7 [(0, .ref r0), (1, .ref 16)] [vI 0, .ref 2] _ H _
  have k7883 : H 2 (0 : Int).toNat = 1 := (hW.2 2 _ hW.1.2.1).2.2 0 (by decide) |> fun z => by have z1 : (1 : Int) ≤ H 2 0 ∧ H 2 0 ≤ 1 := z; exact Int.le_antisymm z1.2 z1.1
  refine wp_of e21 c21_7 (rw_iaload (pc' := 8) (n := 11) (hW.sh hW.1.2.1 rfl) (by decide) (by decide) (by decide) rfl rfl ?_)
  rw [k7883]
  refine wp_of e21 c21_8 (rw_tsw (p1 := 56) ⟨by omega, by omega⟩ (by decide) ?_)
  refine wp_of e21 c21_56 (rw_aload_n (pc' := 57) (v := .ref r0) rfl rfl rfl ?_)
  refine wp_of e21 c21_57 (xg_I (pc' := 60) lf_7_41 hW g0 sh_27 (by decide) (by decide) ty_27_7 rfl rfl (fun b7885 b7886 => ?_))
  refine wp_of e21 c21_60 (rw_if_le (p1 := 67) (p2 := 63) (by decide) rfl ⟨by omega, by omega⟩ (fun c7887 => ?_) (fun c7887 => ?_))
  · refine wp_of e21 c21_67 (rw_iconst (pc' := 68) rfl ?_)
    exact wp_ireturn e21 c21_68 rfl ⟨rfl, rfl, 0, rfl, ⟨by omega, by omega⟩, by omega⟩
  · refine wp_of e21 c21_63 (rw_iconst (pc' := 64) rfl ?_)
    refine wp_of e21 c21_64 (rw_goto (p1 := 68) (by decide) ?_)
    exact wp_ireturn e21 c21_68 rfl ⟨rfl, rfl, 1, rfl, ⟨by omega, by omega⟩, by omega⟩

/-! StrikeAwake$Parish.linesOf(LStrikeAwake$Reserved;)I -/
abbrev q_21_17 (r0 : Nat) (T : wq_T) (H : wq_H) : Option Value → wq_T → wq_H → Prop := fun r T' H' => T = T' ∧ H = H' ∧ ∃ z : Int, some (vI z) = r ∧ ((-2147483648) ≤ z ∧ z ≤ 2147483647) ∧ (z = H r0 10)
set_option maxHeartbeats 4000000 in
theorem s_21_17 {kt : Nat → Option mc_E} {T : wq_T} {H : wq_H} {r0 : Nat} (hW : WT T H) (g0 : T.2.2.2 r0 = some 27) : wpc kt 1 21 [.ref r0, .ref 17] T H (q_21_17 r0 T H) := by
  refine wp_enter e21 (Nat.le_of_ble_eq_true rfl) rfl ?_
  show wp _ _ 21 0 [(0, .ref r0), (1, .ref 17)] [] _ H _
  refine wp_of e21 c21_0 (rw_gs (pc' := 3) (k := 2) rfl rfl rfl rfl ?_)
  refine wp_of e21 c21_3 (rw_aload_n (pc' := 4) (v := .ref 17) rfl rfl rfl ?_)
  refine wp_of e21 c21_4 (rw_ord (pc' := 7) rfl rfl rfl (by decide) (Nat.le_of_ble_eq_true rfl) rfl ?_)
  show wp _ _ 21 7 [(0, .ref r0), (1, .ref 17)] [vI 1, .ref 2] _ H _
  have k7892 : H 2 (1 : Int).toNat = 2 := (hW.2 2 _ hW.1.2.1).2.2 1 (by decide) |> fun z => by have z1 : (2 : Int) ≤ H 2 1 ∧ H 2 1 ≤ 2 := z; exact Int.le_antisymm z1.2 z1.1
  refine wp_of e21 c21_7 (rw_iaload (pc' := 8) (n := 11) (hW.sh hW.1.2.1 rfl) (by decide) (by decide) (by decide) rfl rfl ?_)
  rw [k7892]
  refine wp_of e21 c21_8 (rw_tsw (p1 := 69) ⟨by omega, by omega⟩ (by decide) ?_)
  refine wp_of e21 c21_69 (rw_aload_n (pc' := 70) (v := .ref r0) rfl rfl rfl ?_)
  refine wp_of e21 c21_70 (xg_I (pc' := 73) lf_7_50 hW g0 sh_27 (by decide) (by decide) ty_27_10 rfl rfl (fun b7894 b7895 => ?_))
  exact wp_ireturn e21 c21_73 rfl ⟨rfl, rfl, H r0 10, rfl, ⟨by omega, by omega⟩, by omega⟩

/-! StrikeAwake$Parish.linesOf(LStrikeAwake$Reserved;)I -/
abbrev q_21_18 (r0 : Nat) (T : wq_T) (H : wq_H) : Option Value → wq_T → wq_H → Prop := fun r T' H' => T = T' ∧ H = H' ∧ ∃ z : Int, some (vI z) = r ∧ ((-2147483648) ≤ z ∧ z ≤ 2147483647) ∧ (0 ≤ z ∧ z ≤ 1)
set_option maxHeartbeats 4000000 in
theorem s_21_18 {kt : Nat → Option mc_E} {T : wq_T} {H : wq_H} {r0 : Nat} (hW : WT T H) (g0 : T.2.2.2 r0 = some 27) : wpc kt 1 21 [.ref r0, .ref 18] T H (q_21_18 r0 T H) := by
  refine wp_enter e21 (Nat.le_of_ble_eq_true rfl) rfl ?_
  show wp _ _ 21 0 [(0, .ref r0), (1, .ref 18)] [] _ H _
  refine wp_of e21 c21_0 (rw_gs (pc' := 3) (k := 2) rfl rfl rfl rfl ?_)
  refine wp_of e21 c21_3 (rw_aload_n (pc' := 4) (v := .ref 18) rfl rfl rfl ?_)
  refine wp_of e21 c21_4 (rw_ord (pc' := 7) rfl rfl rfl (by decide) (Nat.le_of_ble_eq_true rfl) rfl ?_)
  show wp _ _ 21 7 [(0, .ref r0), (1, .ref 18)] [vI 2, .ref 2] _ H _
  have k7901 : H 2 (2 : Int).toNat = 3 := (hW.2 2 _ hW.1.2.1).2.2 2 (by decide) |> fun z => by have z1 : (3 : Int) ≤ H 2 2 ∧ H 2 2 ≤ 3 := z; exact Int.le_antisymm z1.2 z1.1
  refine wp_of e21 c21_7 (rw_iaload (pc' := 8) (n := 11) (hW.sh hW.1.2.1 rfl) (by decide) (by decide) (by decide) rfl rfl ?_)
  rw [k7901]
  refine wp_of e21 c21_8 (rw_tsw (p1 := 74) ⟨by omega, by omega⟩ (by decide) ?_)
  refine wp_of e21 c21_74 (rw_aload_n (pc' := 75) (v := .ref r0) rfl rfl rfl ?_)
  refine wp_of e21 c21_75 (xg_I (pc' := 78) lf_7_37 hW g0 sh_27 (by decide) (by decide) ty_27_15 rfl rfl (fun b7903 b7904 => ?_))
  refine wp_of e21 c21_78 (rw_if_lt (p1 := 85) (p2 := 81) (by decide) rfl ⟨by omega, by omega⟩ (fun c7905 => ?_) (fun c7905 => ?_))
  · refine wp_of e21 c21_85 (rw_iconst (pc' := 86) rfl ?_)
    exact wp_ireturn e21 c21_86 rfl ⟨rfl, rfl, 0, rfl, ⟨by omega, by omega⟩, by omega⟩
  · refine wp_of e21 c21_81 (rw_iconst (pc' := 82) rfl ?_)
    refine wp_of e21 c21_82 (rw_goto (p1 := 86) (by decide) ?_)
    exact wp_ireturn e21 c21_86 rfl ⟨rfl, rfl, 1, rfl, ⟨by omega, by omega⟩, by omega⟩

/-! StrikeAwake$Parish.linesOf(LStrikeAwake$Reserved;)I -/
abbrev q_21_19 (r0 : Nat) (T : wq_T) (H : wq_H) : Option Value → wq_T → wq_H → Prop := fun r T' H' => T = T' ∧ H = H' ∧ ∃ z : Int, some (vI z) = r ∧ ((-2147483648) ≤ z ∧ z ≤ 2147483647)
set_option maxHeartbeats 4000000 in
theorem s_21_19 {kt : Nat → Option mc_E} {T : wq_T} {H : wq_H} {r0 : Nat} (hW : WT T H) (g0 : T.2.2.2 r0 = some 27) : wpc kt 1 21 [.ref r0, .ref 19] T H (q_21_19 r0 T H) := by
  refine wp_enter e21 (Nat.le_of_ble_eq_true rfl) rfl ?_
  show wp _ _ 21 0 [(0, .ref r0), (1, .ref 19)] [] _ H _
  refine wp_of e21 c21_0 (rw_gs (pc' := 3) (k := 2) rfl rfl rfl rfl ?_)
  refine wp_of e21 c21_3 (rw_aload_n (pc' := 4) (v := .ref 19) rfl rfl rfl ?_)
  refine wp_of e21 c21_4 (rw_ord (pc' := 7) rfl rfl rfl (by decide) (Nat.le_of_ble_eq_true rfl) rfl ?_)
  show wp _ _ 21 7 [(0, .ref r0), (1, .ref 19)] [vI 3, .ref 2] _ H _
  have k7910 : H 2 (3 : Int).toNat = 4 := (hW.2 2 _ hW.1.2.1).2.2 3 (by decide) |> fun z => by have z1 : (4 : Int) ≤ H 2 3 ∧ H 2 3 ≤ 4 := z; exact Int.le_antisymm z1.2 z1.1
  refine wp_of e21 c21_7 (rw_iaload (pc' := 8) (n := 11) (hW.sh hW.1.2.1 rfl) (by decide) (by decide) (by decide) rfl rfl ?_)
  rw [k7910]
  refine wp_of e21 c21_8 (rw_tsw (p1 := 87) ⟨by omega, by omega⟩ (by decide) ?_)
  refine wp_of e21 c21_87 (rw_aload_n (pc' := 88) (v := .ref r0) rfl rfl rfl ?_)
  refine wp_of e21 c21_88 (xg_I (pc' := 91) lf_7_53 hW g0 sh_27 (by decide) (by decide) ty_27_11 rfl rfl (fun b7912 b7913 => ?_))
  exact wp_ireturn e21 c21_91 rfl ⟨rfl, rfl, H r0 11, rfl, ⟨by omega, by omega⟩⟩

/-! StrikeAwake$Parish.linesOf(LStrikeAwake$Reserved;)I -/
abbrev q_21_20 (r0 : Nat) (T : wq_T) (H : wq_H) : Option Value → wq_T → wq_H → Prop := fun r T' H' => T = T' ∧ H = H' ∧ ∃ z : Int, some (vI z) = r ∧ ((-2147483648) ≤ z ∧ z ≤ 2147483647) ∧ (z = H r0 12)
set_option maxHeartbeats 4000000 in
theorem s_21_20 {kt : Nat → Option mc_E} {T : wq_T} {H : wq_H} {r0 : Nat} (hW : WT T H) (g0 : T.2.2.2 r0 = some 27) : wpc kt 1 21 [.ref r0, .ref 20] T H (q_21_20 r0 T H) := by
  refine wp_enter e21 (Nat.le_of_ble_eq_true rfl) rfl ?_
  show wp _ _ 21 0 [(0, .ref r0), (1, .ref 20)] [] _ H _
  refine wp_of e21 c21_0 (rw_gs (pc' := 3) (k := 2) rfl rfl rfl rfl ?_)
  refine wp_of e21 c21_3 (rw_aload_n (pc' := 4) (v := .ref 20) rfl rfl rfl ?_)
  refine wp_of e21 c21_4 (rw_ord (pc' := 7) rfl rfl rfl (by decide) (Nat.le_of_ble_eq_true rfl) rfl ?_)
  show wp _ _ 21 7 [(0, .ref r0), (1, .ref 20)] [vI 4, .ref 2] _ H _
  have k7918 : H 2 (4 : Int).toNat = 5 := (hW.2 2 _ hW.1.2.1).2.2 4 (by decide) |> fun z => by have z1 : (5 : Int) ≤ H 2 4 ∧ H 2 4 ≤ 5 := z; exact Int.le_antisymm z1.2 z1.1
  refine wp_of e21 c21_7 (rw_iaload (pc' := 8) (n := 11) (hW.sh hW.1.2.1 rfl) (by decide) (by decide) (by decide) rfl rfl ?_)
  rw [k7918]
  refine wp_of e21 c21_8 (rw_tsw (p1 := 92) ⟨by omega, by omega⟩ (by decide) ?_)
  refine wp_of e21 c21_92 (rw_aload_n (pc' := 93) (v := .ref r0) rfl rfl rfl ?_)
  refine wp_of e21 c21_93 (xg_I (pc' := 96) lf_7_56 hW g0 sh_27 (by decide) (by decide) ty_27_12 rfl rfl (fun b7920 b7921 => ?_))
  exact wp_ireturn e21 c21_96 rfl ⟨rfl, rfl, H r0 12, rfl, ⟨by omega, by omega⟩, by omega⟩

/-! StrikeAwake$Parish.linesOf(LStrikeAwake$Reserved;)I -/
abbrev q_21_21 (r0 : Nat) (T : wq_T) (H : wq_H) : Option Value → wq_T → wq_H → Prop := fun r T' H' => T = T' ∧ H = H' ∧ ∃ z : Int, some (vI z) = r ∧ ((-2147483648) ≤ z ∧ z ≤ 2147483647)
set_option maxHeartbeats 4000000 in
theorem s_21_21 {kt : Nat → Option mc_E} {T : wq_T} {H : wq_H} {r0 : Nat} (hW : WT T H) (g0 : T.2.2.2 r0 = some 27) : wpc kt 1 21 [.ref r0, .ref 21] T H (q_21_21 r0 T H) := by
  refine wp_enter e21 (Nat.le_of_ble_eq_true rfl) rfl ?_
  show wp _ _ 21 0 [(0, .ref r0), (1, .ref 21)] [] _ H _
  refine wp_of e21 c21_0 (rw_gs (pc' := 3) (k := 2) rfl rfl rfl rfl ?_)
  refine wp_of e21 c21_3 (rw_aload_n (pc' := 4) (v := .ref 21) rfl rfl rfl ?_)
  refine wp_of e21 c21_4 (rw_ord (pc' := 7) rfl rfl rfl (by decide) (Nat.le_of_ble_eq_true rfl) rfl ?_)
  show wp _ _ 21 7 [(0, .ref r0), (1, .ref 21)] [vI 5, .ref 2] _ H _
  have k7926 : H 2 (5 : Int).toNat = 6 := (hW.2 2 _ hW.1.2.1).2.2 5 (by decide) |> fun z => by have z1 : (6 : Int) ≤ H 2 5 ∧ H 2 5 ≤ 6 := z; exact Int.le_antisymm z1.2 z1.1
  refine wp_of e21 c21_7 (rw_iaload (pc' := 8) (n := 11) (hW.sh hW.1.2.1 rfl) (by decide) (by decide) (by decide) rfl rfl ?_)
  rw [k7926]
  refine wp_of e21 c21_8 (rw_tsw (p1 := 97) ⟨by omega, by omega⟩ (by decide) ?_)
  refine wp_of e21 c21_97 (rw_aload_n (pc' := 98) (v := .ref r0) rfl rfl rfl ?_)
  refine wp_of e21 c21_98 (xg_I (pc' := 101) lf_7_65 hW g0 sh_27 (by decide) (by decide) ty_27_16 rfl rfl (fun b7928 b7929 => ?_))
  exact wp_ireturn e21 c21_101 rfl ⟨rfl, rfl, H r0 16, rfl, ⟨by omega, by omega⟩⟩

/-! StrikeAwake$Parish.linesOf(LStrikeAwake$Reserved;)I -/
abbrev q_21_22 (r0 : Nat) (T : wq_T) (H : wq_H) : Option Value → wq_T → wq_H → Prop := fun r T' H' => T = T' ∧ H = H' ∧ ∃ z : Int, some (vI z) = r ∧ ((-2147483648) ≤ z ∧ z ≤ 2147483647) ∧ (z = H r0 13)
set_option maxHeartbeats 4000000 in
theorem s_21_22 {kt : Nat → Option mc_E} {T : wq_T} {H : wq_H} {r0 : Nat} (hW : WT T H) (g0 : T.2.2.2 r0 = some 27) : wpc kt 1 21 [.ref r0, .ref 22] T H (q_21_22 r0 T H) := by
  refine wp_enter e21 (Nat.le_of_ble_eq_true rfl) rfl ?_
  show wp _ _ 21 0 [(0, .ref r0), (1, .ref 22)] [] _ H _
  refine wp_of e21 c21_0 (rw_gs (pc' := 3) (k := 2) rfl rfl rfl rfl ?_)
  refine wp_of e21 c21_3 (rw_aload_n (pc' := 4) (v := .ref 22) rfl rfl rfl ?_)
  refine wp_of e21 c21_4 (rw_ord (pc' := 7) rfl rfl rfl (by decide) (Nat.le_of_ble_eq_true rfl) rfl ?_)
  show wp _ _ 21 7 [(0, .ref r0), (1, .ref 22)] [vI 6, .ref 2] _ H _
  have k7934 : H 2 (6 : Int).toNat = 7 := (hW.2 2 _ hW.1.2.1).2.2 6 (by decide) |> fun z => by have z1 : (7 : Int) ≤ H 2 6 ∧ H 2 6 ≤ 7 := z; exact Int.le_antisymm z1.2 z1.1
  refine wp_of e21 c21_7 (rw_iaload (pc' := 8) (n := 11) (hW.sh hW.1.2.1 rfl) (by decide) (by decide) (by decide) rfl rfl ?_)
  rw [k7934]
  refine wp_of e21 c21_8 (rw_tsw (p1 := 102) ⟨by omega, by omega⟩ (by decide) ?_)
  refine wp_of e21 c21_102 (rw_aload_n (pc' := 103) (v := .ref r0) rfl rfl rfl ?_)
  refine wp_of e21 c21_103 (xg_I (pc' := 106) lf_7_59 hW g0 sh_27 (by decide) (by decide) ty_27_13 rfl rfl (fun b7936 b7937 => ?_))
  exact wp_ireturn e21 c21_106 rfl ⟨rfl, rfl, H r0 13, rfl, ⟨by omega, by omega⟩, by omega⟩

/-! StrikeAwake$Parish.linesOf(LStrikeAwake$Reserved;)I -/
abbrev q_21_23 (r0 : Nat) (T : wq_T) (H : wq_H) : Option Value → wq_T → wq_H → Prop := fun r T' H' => T = T' ∧ H = H' ∧ ∃ z : Int, some (vI z) = r ∧ ((-2147483648) ≤ z ∧ z ≤ 2147483647) ∧ (z = H r0 14)
set_option maxHeartbeats 4000000 in
theorem s_21_23 {kt : Nat → Option mc_E} {T : wq_T} {H : wq_H} {r0 : Nat} (hW : WT T H) (g0 : T.2.2.2 r0 = some 27) : wpc kt 1 21 [.ref r0, .ref 23] T H (q_21_23 r0 T H) := by
  refine wp_enter e21 (Nat.le_of_ble_eq_true rfl) rfl ?_
  show wp _ _ 21 0 [(0, .ref r0), (1, .ref 23)] [] _ H _
  refine wp_of e21 c21_0 (rw_gs (pc' := 3) (k := 2) rfl rfl rfl rfl ?_)
  refine wp_of e21 c21_3 (rw_aload_n (pc' := 4) (v := .ref 23) rfl rfl rfl ?_)
  refine wp_of e21 c21_4 (rw_ord (pc' := 7) rfl rfl rfl (by decide) (Nat.le_of_ble_eq_true rfl) rfl ?_)
  show wp _ _ 21 7 [(0, .ref r0), (1, .ref 23)] [vI 7, .ref 2] _ H _
  have k7942 : H 2 (7 : Int).toNat = 8 := (hW.2 2 _ hW.1.2.1).2.2 7 (by decide) |> fun z => by have z1 : (8 : Int) ≤ H 2 7 ∧ H 2 7 ≤ 8 := z; exact Int.le_antisymm z1.2 z1.1
  refine wp_of e21 c21_7 (rw_iaload (pc' := 8) (n := 11) (hW.sh hW.1.2.1 rfl) (by decide) (by decide) (by decide) rfl rfl ?_)
  rw [k7942]
  refine wp_of e21 c21_8 (rw_tsw (p1 := 107) ⟨by omega, by omega⟩ (by decide) ?_)
  refine wp_of e21 c21_107 (rw_aload_n (pc' := 108) (v := .ref r0) rfl rfl rfl ?_)
  refine wp_of e21 c21_108 (xg_I (pc' := 111) lf_7_62 hW g0 sh_27 (by decide) (by decide) ty_27_14 rfl rfl (fun b7944 b7945 => ?_))
  exact wp_ireturn e21 c21_111 rfl ⟨rfl, rfl, H r0 14, rfl, ⟨by omega, by omega⟩, by omega⟩
/-! StrikeAwake$Reader.takesWord(Ljava/lang/String;)Z -/
theorem e23 : wq_en 23 = some (1, 2, false, some FieldType.boolean) := rfl
theorem c23_0 : mc_cd 23 0 = some (.aload_n 0, 1) := by decide +kernel
theorem c23_1 : mc_cd 23 1 = some (.getfield 12, 3) := by decide +kernel
theorem c23_4 : mc_cd 23 4 = some (.aload_n 1, 1) := by decide +kernel
theorem c23_5 : mc_cd 23 5 = some (.invokevirtual 185, 3) := by decide +kernel
theorem c23_8 : mc_cd 23 8 = some (.ifCond .ne 9, 3) := by decide +kernel
theorem c23_11 : mc_cd 23 11 = some (.aload_n 0, 1) := by decide +kernel
theorem c23_12 : mc_cd 23 12 = some (.iconst 1, 1) := by decide +kernel
theorem c23_13 : mc_cd 23 13 = some (.invokevirtual 47, 3) := by decide +kernel
theorem c23_16 : mc_cd 23 16 = some (.ireturn, 1) := by decide +kernel
theorem c23_17 : mc_cd 23 17 = some (.aload_n 0, 1) := by decide +kernel
theorem c23_18 : mc_cd 23 18 = some (.getfield 12, 3) := by decide +kernel
theorem c23_21 : mc_cd 23 21 = some (.invokevirtual 74, 3) := by decide +kernel
theorem c23_24 : mc_cd 23 24 = some (.iconst 1, 1) := by decide +kernel
theorem c23_25 : mc_cd 23 25 = some (.ireturn, 1) := by decide +kernel
abbrev q_23 (r0 : Nat) (s1 : Nat) (tk : Nat) (rb : Nat) (T : wq_T) (H : wq_H) : Option Value → wq_T → wq_H → Prop := fun r T' H' => T = T' ∧ WT T H' ∧ wfr [(3, 3), (3, 4), (4, 2), (4, 3), (4, 4), (4, 5), (4, 6)] T H H' ∧ ∃ z : Int, some (vI z) = r ∧ (0 ≤ z ∧ z ≤ 1)
set_option maxHeartbeats 4000000 in
theorem s_23 {kt : Nat → Option mc_E} {T : wq_T} {H : wq_H} {r0 : Nat} {s1 : Nat} {t1 : List Int32} {tk : Nat} {rb : Nat} (hW : WT T H) (g0 : T.2.2.2 r0 = some 3) (h1 : mc_find mc_sb s1 = some t1) (qtk : H r0 0 = (tk : Int)) (gtk : T.2.2.2 tk = some 4) (qrb : H tk 0 = (rb : Int)) (grb : T.2.2.2 rb = some 2) : wpc kt 2 23 [.ref r0, .ref s1] T H (q_23 r0 s1 tk rb T H) := by
  refine wp_enter e23 (Nat.le_of_ble_eq_true rfl) rfl ?_
  have f0 : wfr [(3, 3), (3, 4), (4, 2), (4, 3), (4, 4), (4, 5), (4, 6)] T H H := wfr.rf
  show wp _ _ 23 0 [(0, .ref r0), (1, .ref s1)] [] _ H _
  refine wp_of e23 c23_0 (rw_aload_n (pc' := 1) (v := .ref r0) rfl rfl rfl ?_)
  refine wp_of e23 c23_1 (xg_K (pc' := 4) lf_1_12 hW g0 sh_3 (by decide) (by decide) rfl qtk rfl ?_)
  refine wp_of e23 c23_4 (rw_aload_n (pc' := 5) (v := .ref s1) rfl rfl rfl ?_)
  refine wp_of e23 c23_5 (xc_V (pc' := 8) (r := tk) (as := [.ref s1]) (st := []) (lm_1_185) rfl rfl (Nat.le_of_ble_eq_true rfl) hW gtk sh_4 (by decide) rfl (by decide) (s_19 hW gtk h1) (fun R7976 T7977 H7978 p7979 => ?_))
  obtain ⟨e7980, e7982, z7983, e7981, b7984⟩ := p7979
  subst e7980
  subst e7981
  subst e7982
  show wp _ _ 23 8 [(0, .ref r0), (1, .ref s1)] [vI z7983] _ H _
  refine wp_of e23 c23_8 (rw_if_ne (p1 := 17) (p2 := 11) (by decide) rfl ⟨by omega, by omega⟩ (fun c7985 => ?_) (fun c7985 => ?_))
  · refine wp_of e23 c23_17 (rw_aload_n (pc' := 18) (v := .ref r0) rfl rfl rfl ?_)
    refine wp_of e23 c23_18 (xg_K (pc' := 21) lf_1_12 hW g0 sh_3 (by decide) (by decide) rfl qtk rfl ?_)
    refine wp_of e23 c23_21 (xc_V (pc' := 24) (r := tk) (as := []) (st := []) (lm_1_74) rfl rfl (Nat.le_of_ble_eq_true rfl) hW gtk sh_4 (by decide) rfl (by decide) (s_16 hW gtk qrb grb) (fun R7986 T7987 H7988 p7989 => ?_))
    obtain ⟨e7990, w7992, f7993, e7991⟩ := p7989
    subst e7990
    subst e7991
    have f7994 := f0.tr f7993 rfl
    show wp _ _ 23 24 [(0, .ref r0), (1, .ref s1)] [] _ H7988 _
    refine wp_of e23 c23_24 (rw_iconst (pc' := 25) rfl ?_)
    exact wp_zreturn e23 c23_25 rfl (by omega) ⟨rfl, w7992, f7994, 1, rfl, ⟨by omega, by omega⟩⟩
  · refine wp_of e23 c23_11 (rw_aload_n (pc' := 12) (v := .ref r0) rfl rfl rfl ?_)
    refine wp_of e23 c23_12 (rw_iconst (pc' := 13) rfl ?_)
    refine wp_of e23 c23_13 (xc_V (pc' := 16) (r := r0) (as := [vI 1]) (st := []) (lm_1_47) rfl rfl (Nat.le_of_ble_eq_true rfl) hW g0 sh_3 (by decide) rfl (by decide) (s_20 hW g0 ⟨by omega, by omega⟩) (fun R7995 T7996 H7997 p7998 => ?_))
    obtain ⟨e7999, w8001, f8002, z8003, e8000, b8004⟩ := p7998
    subst e7999
    subst e8000
    have f8005 := f0.tr f8002 rfl
    show wp _ _ 23 16 [(0, .ref r0), (1, .ref s1)] [vI z8003] _ H7997 _
    exact wp_zreturn e23 c23_16 rfl (by omega) ⟨rfl, w8001, f8005, z8003, rfl, ⟨by omega, by omega⟩⟩
/-! StrikeAwake$Reader.whole(II)I -/
theorem e24 : wq_en 24 = some (1, 4, false, some FieldType.int) := rfl
theorem c24_0 : mc_cd 24 0 = some (.aload_n 0, 1) := by decide +kernel
theorem c24_1 : mc_cd 24 1 = some (.getfield 12, 3) := by decide +kernel
theorem c24_4 : mc_cd 24 4 = some (.getfield 38, 3) := by decide +kernel
theorem c24_7 : mc_cd 24 7 = some (.iconst 2, 1) := by decide +kernel
theorem c24_8 : mc_cd 24 8 = some (.if_icmp .eq 11, 3) := by decide +kernel
theorem c24_11 : mc_cd 24 11 = some (.aload_n 0, 1) := by decide +kernel
theorem c24_12 : mc_cd 24 12 = some (.iconst 1, 1) := by decide +kernel
theorem c24_13 : mc_cd 24 13 = some (.invokevirtual 47, 3) := by decide +kernel
theorem c24_16 : mc_cd 24 16 = some (.pop, 1) := by decide +kernel
theorem c24_17 : mc_cd 24 17 = some (.iconst (-1), 1) := by decide +kernel
theorem c24_18 : mc_cd 24 18 = some (.ireturn, 1) := by decide +kernel
theorem c24_19 : mc_cd 24 19 = some (.aload_n 0, 1) := by decide +kernel
theorem c24_20 : mc_cd 24 20 = some (.getfield 12, 3) := by decide +kernel
theorem c24_23 : mc_cd 24 23 = some (.getfield 230, 3) := by decide +kernel
theorem c24_26 : mc_cd 24 26 = some (.istore_n 3, 1) := by decide +kernel
theorem c24_27 : mc_cd 24 27 = some (.iload_n 3, 1) := by decide +kernel
theorem c24_28 : mc_cd 24 28 = some (.iload_n 1, 1) := by decide +kernel
theorem c24_29 : mc_cd 24 29 = some (.if_icmp .lt 8, 3) := by decide +kernel
theorem c24_32 : mc_cd 24 32 = some (.iload_n 3, 1) := by decide +kernel
theorem c24_33 : mc_cd 24 33 = some (.iload_n 2, 1) := by decide +kernel
theorem c24_34 : mc_cd 24 34 = some (.if_icmp .le 11, 3) := by decide +kernel
theorem c24_37 : mc_cd 24 37 = some (.aload_n 0, 1) := by decide +kernel
theorem c24_38 : mc_cd 24 38 = some (.iconst 4, 1) := by decide +kernel
theorem c24_39 : mc_cd 24 39 = some (.invokevirtual 47, 3) := by decide +kernel
theorem c24_42 : mc_cd 24 42 = some (.pop, 1) := by decide +kernel
theorem c24_43 : mc_cd 24 43 = some (.iconst (-1), 1) := by decide +kernel
theorem c24_44 : mc_cd 24 44 = some (.ireturn, 1) := by decide +kernel
theorem c24_45 : mc_cd 24 45 = some (.aload_n 0, 1) := by decide +kernel
theorem c24_46 : mc_cd 24 46 = some (.getfield 12, 3) := by decide +kernel
theorem c24_49 : mc_cd 24 49 = some (.invokevirtual 74, 3) := by decide +kernel
theorem c24_52 : mc_cd 24 52 = some (.iload_n 3, 1) := by decide +kernel
theorem c24_53 : mc_cd 24 53 = some (.ireturn, 1) := by decide +kernel
abbrev q_24 (r0 : Nat) (a1 : Int) (a2 : Int) (tk : Nat) (rb : Nat) (T : wq_T) (H : wq_H) : Option Value → wq_T → wq_H → Prop := fun r T' H' => T = T' ∧ WT T H' ∧ wfr [(3, 3), (3, 4), (4, 2), (4, 3), (4, 4), (4, 5), (4, 6)] T H H' ∧ ∃ z : Int, some (vI z) = r ∧ ((-1) ≤ z ∧ z ≤ 100) ∧ (z = -1 ∨ (a1 ≤ z ∧ z ≤ a2))
set_option maxHeartbeats 4000000 in
theorem s_24 {kt : Nat → Option mc_E} {T : wq_T} {H : wq_H} {r0 : Nat} {a1 : Int} {a2 : Int} {tk : Nat} {rb : Nat} (hW : WT T H) (g0 : T.2.2.2 r0 = some 3) (i1 : 0 ≤ a1 ∧ a1 ≤ 100) (i2 : 0 ≤ a2 ∧ a2 ≤ 100) (qtk : H r0 0 = (tk : Int)) (gtk : T.2.2.2 tk = some 4) (qrb : H tk 0 = (rb : Int)) (grb : T.2.2.2 rb = some 2) : wpc kt 2 24 [.ref r0, vI a1, vI a2] T H (q_24 r0 a1 a2 tk rb T H) := by
  refine wp_enter e24 (Nat.le_of_ble_eq_true rfl) rfl ?_
  have f0 : wfr [(3, 3), (3, 4), (4, 2), (4, 3), (4, 4), (4, 5), (4, 6)] T H H := wfr.rf
  show wp _ _ 24 0 [(0, .ref r0), (1, vI a1), (2, vI a2)] [] _ H _
  refine wp_of e24 c24_0 (rw_aload_n (pc' := 1) (v := .ref r0) rfl rfl rfl ?_)
  refine wp_of e24 c24_1 (xg_K (pc' := 4) lf_1_12 hW g0 sh_3 (by decide) (by decide) rfl qtk rfl ?_)
  refine wp_of e24 c24_4 (xg_I (pc' := 7) lf_1_38 hW gtk sh_4 (by decide) (by decide) ty_4_3 rfl rfl (fun b8055 b8056 => ?_))
  refine wp_of e24 c24_7 (rw_iconst (pc' := 8) rfl ?_)
  refine wp_of e24 c24_8 (rw_icmp_eq (p1 := 19) (p2 := 11) (by decide) rfl ⟨by omega, by omega⟩ ⟨by omega, by omega⟩ (fun c8057 => ?_) (fun c8057 => ?_))
  · refine wp_of e24 c24_19 (rw_aload_n (pc' := 20) (v := .ref r0) rfl rfl rfl ?_)
    refine wp_of e24 c24_20 (xg_K (pc' := 23) lf_1_12 hW g0 sh_3 (by decide) (by decide) rfl qtk rfl ?_)
    refine wp_of e24 c24_23 (xg_I (pc' := 26) lf_1_230 hW gtk sh_4 (by decide) (by decide) ty_4_5 rfl rfl (fun b8058 b8059 => ?_))
    refine wp_of e24 c24_26 (rw_istore_n (pc' := 27) (z := H tk 5) (L' := [(3, vI (H tk 5)), (0, .ref r0), (1, vI a1), (2, vI a2)]) rfl rfl rfl ?_)
    refine wp_of e24 c24_27 (rw_iload_n (pc' := 28) (z := H tk 5) rfl rfl ?_)
    refine wp_of e24 c24_28 (rw_iload_n (pc' := 29) (z := a1) rfl rfl ?_)
    refine wp_of e24 c24_29 (rw_icmp_lt (p1 := 37) (p2 := 32) (by decide) rfl ⟨by omega, by omega⟩ ⟨by omega, by omega⟩ (fun c8060 => ?_) (fun c8060 => ?_))
    · refine wp_of e24 c24_37 (rw_aload_n (pc' := 38) (v := .ref r0) rfl rfl rfl ?_)
      refine wp_of e24 c24_38 (rw_iconst (pc' := 39) rfl ?_)
      refine wp_of e24 c24_39 (xc_V (pc' := 42) (r := r0) (as := [vI 4]) (st := []) (lm_1_47) rfl rfl (Nat.le_of_ble_eq_true rfl) hW g0 sh_3 (by decide) rfl (by decide) (s_20 hW g0 ⟨by omega, by omega⟩) (fun R8061 T8062 H8063 p8064 => ?_))
      obtain ⟨e8065, w8067, f8068, z8069, e8066, b8070⟩ := p8064
      subst e8065
      subst e8066
      have f8071 := f0.tr f8068 rfl
      show wp _ _ 24 42 [(3, vI (H tk 5)), (0, .ref r0), (1, vI a1), (2, vI a2)] [vI z8069] _ H8063 _
      refine wp_of e24 c24_42 (rw_pop (pc' := 43) rfl rfl ?_)
      refine wp_of e24 c24_43 (rw_iconst (pc' := 44) rfl ?_)
      exact wp_ireturn e24 c24_44 rfl ⟨rfl, w8067, f8071, -1, rfl, ⟨by omega, by omega⟩, by omega⟩
    · refine wp_of e24 c24_32 (rw_iload_n (pc' := 33) (z := H tk 5) rfl rfl ?_)
      refine wp_of e24 c24_33 (rw_iload_n (pc' := 34) (z := a2) rfl rfl ?_)
      refine wp_of e24 c24_34 (rw_icmp_le (p1 := 45) (p2 := 37) (by decide) rfl ⟨by omega, by omega⟩ ⟨by omega, by omega⟩ (fun c8072 => ?_) (fun c8072 => ?_))
      · refine wp_of e24 c24_45 (rw_aload_n (pc' := 46) (v := .ref r0) rfl rfl rfl ?_)
        refine wp_of e24 c24_46 (xg_K (pc' := 49) lf_1_12 hW g0 sh_3 (by decide) (by decide) rfl qtk rfl ?_)
        refine wp_of e24 c24_49 (xc_V (pc' := 52) (r := tk) (as := []) (st := []) (lm_1_74) rfl rfl (Nat.le_of_ble_eq_true rfl) hW gtk sh_4 (by decide) rfl (by decide) (s_16 hW gtk qrb grb) (fun R8073 T8074 H8075 p8076 => ?_))
        obtain ⟨e8077, w8079, f8080, e8078⟩ := p8076
        subst e8077
        subst e8078
        have f8081 := f0.tr f8080 rfl
        show wp _ _ 24 52 [(3, vI (H tk 5)), (0, .ref r0), (1, vI a1), (2, vI a2)] [] _ H8075 _
        refine wp_of e24 c24_52 (rw_iload_n (pc' := 53) (z := H tk 5) rfl rfl ?_)
        exact wp_ireturn e24 c24_53 rfl ⟨rfl, w8079, f8081, H tk 5, rfl, ⟨by omega, by omega⟩, by omega⟩
      · refine wp_of e24 c24_37 (rw_aload_n (pc' := 38) (v := .ref r0) rfl rfl rfl ?_)
        refine wp_of e24 c24_38 (rw_iconst (pc' := 39) rfl ?_)
        refine wp_of e24 c24_39 (xc_V (pc' := 42) (r := r0) (as := [vI 4]) (st := []) (lm_1_47) rfl rfl (Nat.le_of_ble_eq_true rfl) hW g0 sh_3 (by decide) rfl (by decide) (s_20 hW g0 ⟨by omega, by omega⟩) (fun R8082 T8083 H8084 p8085 => ?_))
        obtain ⟨e8086, w8088, f8089, z8090, e8087, b8091⟩ := p8085
        subst e8086
        subst e8087
        have f8092 := f0.tr f8089 rfl
        show wp _ _ 24 42 [(3, vI (H tk 5)), (0, .ref r0), (1, vI a1), (2, vI a2)] [vI z8090] _ H8084 _
        refine wp_of e24 c24_42 (rw_pop (pc' := 43) rfl rfl ?_)
        refine wp_of e24 c24_43 (rw_iconst (pc' := 44) rfl ?_)
        exact wp_ireturn e24 c24_44 rfl ⟨rfl, w8088, f8092, -1, rfl, ⟨by omega, by omega⟩, by omega⟩
  · refine wp_of e24 c24_11 (rw_aload_n (pc' := 12) (v := .ref r0) rfl rfl rfl ?_)
    refine wp_of e24 c24_12 (rw_iconst (pc' := 13) rfl ?_)
    refine wp_of e24 c24_13 (xc_V (pc' := 16) (r := r0) (as := [vI 1]) (st := []) (lm_1_47) rfl rfl (Nat.le_of_ble_eq_true rfl) hW g0 sh_3 (by decide) rfl (by decide) (s_20 hW g0 ⟨by omega, by omega⟩) (fun R8093 T8094 H8095 p8096 => ?_))
    obtain ⟨e8097, w8099, f8100, z8101, e8098, b8102⟩ := p8096
    subst e8097
    subst e8098
    have f8103 := f0.tr f8100 rfl
    show wp _ _ 24 16 [(0, .ref r0), (1, vI a1), (2, vI a2)] [vI z8101] _ H8095 _
    refine wp_of e24 c24_16 (rw_pop (pc' := 17) rfl rfl ?_)
    refine wp_of e24 c24_17 (rw_iconst (pc' := 18) rfl ?_)
    exact wp_ireturn e24 c24_18 rfl ⟨rfl, w8099, f8103, -1, rfl, ⟨by omega, by omega⟩, by omega⟩
/-! StrikeAwake$Reader.readsLaw(LStrikeAwake$Parish;)Z -/
theorem e22 : wq_en 22 = some (1, 5, false, some FieldType.boolean) := rfl
theorem c22_0 : mc_cd 22 0 = some (.aload_n 0, 1) := by decide +kernel
theorem c22_1 : mc_cd 22 1 = some (.ldc 114, 2) := by decide +kernel
theorem c22_3 : mc_cd 22 3 = some (.invokevirtual 115, 3) := by decide +kernel
theorem c22_6 : mc_cd 22 6 = some (.ifCond .eq 13, 3) := by decide +kernel
theorem c22_9 : mc_cd 22 9 = some (.aload_n 0, 1) := by decide +kernel
theorem c22_10 : mc_cd 22 10 = some (.iconst 1, 1) := by decide +kernel
theorem c22_11 : mc_cd 22 11 = some (.bipush 24, 2) := by decide +kernel
theorem c22_13 : mc_cd 22 13 = some (.invokevirtual 119, 3) := by decide +kernel
theorem c22_16 : mc_cd 22 16 = some (.goto 4, 3) := by decide +kernel
theorem c22_19 : mc_cd 22 19 = some (.iconst (-1), 1) := by decide +kernel
theorem c22_20 : mc_cd 22 20 = some (.istore_n 2, 1) := by decide +kernel
theorem c22_21 : mc_cd 22 21 = some (.iload_n 2, 1) := by decide +kernel
theorem c22_22 : mc_cd 22 22 = some (.ifCond .lt 22, 3) := by decide +kernel
theorem c22_25 : mc_cd 22 25 = some (.aload_n 0, 1) := by decide +kernel
theorem c22_26 : mc_cd 22 26 = some (.ldc 123, 2) := by decide +kernel
theorem c22_28 : mc_cd 22 28 = some (.invokevirtual 115, 3) := by decide +kernel
theorem c22_31 : mc_cd 22 31 = some (.ifCond .eq 13, 3) := by decide +kernel
theorem c22_34 : mc_cd 22 34 = some (.aload_n 0, 1) := by decide +kernel
theorem c22_35 : mc_cd 22 35 = some (.iconst 0, 1) := by decide +kernel
theorem c22_36 : mc_cd 22 36 = some (.bipush 9, 2) := by decide +kernel
theorem c22_38 : mc_cd 22 38 = some (.invokevirtual 119, 3) := by decide +kernel
theorem c22_41 : mc_cd 22 41 = some (.goto 4, 3) := by decide +kernel
theorem c22_44 : mc_cd 22 44 = some (.iconst (-1), 1) := by decide +kernel
theorem c22_45 : mc_cd 22 45 = some (.istore_n 3, 1) := by decide +kernel
theorem c22_46 : mc_cd 22 46 = some (.iload_n 3, 1) := by decide +kernel
theorem c22_47 : mc_cd 22 47 = some (.ifCond .lt 21, 3) := by decide +kernel
theorem c22_50 : mc_cd 22 50 = some (.aload_n 0, 1) := by decide +kernel
theorem c22_51 : mc_cd 22 51 = some (.ldc 125, 2) := by decide +kernel
theorem c22_53 : mc_cd 22 53 = some (.invokevirtual 115, 3) := by decide +kernel
theorem c22_56 : mc_cd 22 56 = some (.ifCond .eq 12, 3) := by decide +kernel
theorem c22_59 : mc_cd 22 59 = some (.aload_n 0, 1) := by decide +kernel
theorem c22_60 : mc_cd 22 60 = some (.iconst 0, 1) := by decide +kernel
theorem c22_61 : mc_cd 22 61 = some (.iconst 3, 1) := by decide +kernel
theorem c22_62 : mc_cd 22 62 = some (.invokevirtual 119, 3) := by decide +kernel
theorem c22_65 : mc_cd 22 65 = some (.goto 4, 3) := by decide +kernel
theorem c22_68 : mc_cd 22 68 = some (.iconst (-1), 1) := by decide +kernel
theorem c22_69 : mc_cd 22 69 = some (.istore 4, 2) := by decide +kernel
theorem c22_71 : mc_cd 22 71 = some (.iload 4, 2) := by decide +kernel
theorem c22_73 : mc_cd 22 73 = some (.ifCond .ge 5, 3) := by decide +kernel
theorem c22_76 : mc_cd 22 76 = some (.iconst 0, 1) := by decide +kernel
theorem c22_77 : mc_cd 22 77 = some (.ireturn, 1) := by decide +kernel
theorem c22_78 : mc_cd 22 78 = some (.aload_n 1, 1) := by decide +kernel
theorem c22_79 : mc_cd 22 79 = some (.iload_n 2, 1) := by decide +kernel
theorem c22_80 : mc_cd 22 80 = some (.putfield 41, 3) := by decide +kernel
theorem c22_83 : mc_cd 22 83 = some (.aload_n 1, 1) := by decide +kernel
theorem c22_84 : mc_cd 22 84 = some (.iload_n 3, 1) := by decide +kernel
theorem c22_85 : mc_cd 22 85 = some (.putfield 127, 3) := by decide +kernel
theorem c22_88 : mc_cd 22 88 = some (.aload_n 1, 1) := by decide +kernel
theorem c22_89 : mc_cd 22 89 = some (.iload 4, 2) := by decide +kernel
theorem c22_91 : mc_cd 22 91 = some (.putfield 129, 3) := by decide +kernel
theorem c22_94 : mc_cd 22 94 = some (.iconst 1, 1) := by decide +kernel
theorem c22_95 : mc_cd 22 95 = some (.ireturn, 1) := by decide +kernel
abbrev q_22 (r0 : Nat) (r1 : Nat) (tk : Nat) (rb : Nat) (T : wq_T) (H : wq_H) : Option Value → wq_T → wq_H → Prop := fun r T' H' => T = T' ∧ WT T H' ∧ wfr [(27, 7), (27, 8), (27, 9), (3, 3), (3, 4), (4, 2), (4, 3), (4, 4), (4, 5), (4, 6)] T H H' ∧ ∃ z : Int, some (vI z) = r ∧ (0 ≤ z ∧ z ≤ 1)
set_option maxHeartbeats 4000000 in
theorem s_22 {kt : Nat → Option mc_E} {T : wq_T} {H : wq_H} {r0 : Nat} {r1 : Nat} {tk : Nat} {rb : Nat} (hW : WT T H) (g0 : T.2.2.2 r0 = some 3) (g1 : T.2.2.2 r1 = some 27) (qtk : H r0 0 = (tk : Int)) (gtk : T.2.2.2 tk = some 4) (qrb : H tk 0 = (rb : Int)) (grb : T.2.2.2 rb = some 2) : wpc kt 3 22 [.ref r0, .ref r1] T H (q_22 r0 r1 tk rb T H) := by
  refine wp_enter e22 (Nat.le_of_ble_eq_true rfl) rfl ?_
  have f0 : wfr [(27, 7), (27, 8), (27, 9), (3, 3), (3, 4), (4, 2), (4, 3), (4, 4), (4, 5), (4, 6)] T H H := wfr.rf
  show wp _ _ 22 0 [(0, .ref r0), (1, .ref r1)] [] _ H _
  refine wp_of e22 c22_0 (rw_aload_n (pc' := 1) (v := .ref r0) rfl rfl rfl ?_)
  refine wp_of e22 c22_1 (rw_ldcS (pc' := 3) (k := 64) rfl rfl rfl rfl ?_)
  refine wp_of e22 c22_3 (xc_V (pc' := 6) (r := r0) (as := [.ref 64]) (st := []) (lm_1_115) rfl rfl (Nat.le_of_ble_eq_true rfl) hW g0 sh_3 (by decide) rfl (by decide) (s_23 hW g0 rfl qtk gtk qrb grb) (fun R8223 T8224 H8225 p8226 => ?_))
  obtain ⟨e8227, w8229, f8230, z8231, e8228, b8232⟩ := p8226
  subst e8227
  subst e8228
  have f8233 := f0.tr f8230 rfl
  show wp _ _ 22 6 [(0, .ref r0), (1, .ref r1)] [vI z8231] _ H8225 _
  refine wp_of e22 c22_6 (rw_if_eq (p1 := 19) (p2 := 9) (by decide) rfl ⟨by omega, by omega⟩ (fun c8234 => ?_) (fun c8234 => ?_))
  · refine wp_of e22 c22_19 (rw_iconst (pc' := 20) rfl ?_)
    refine wp_of e22 c22_20 (rw_istore_n (pc' := 21) (z := -1) (L' := [(2, vI (-1)), (0, .ref r0), (1, .ref r1)]) rfl rfl rfl ?_)
    refine wp_of e22 c22_21 (rw_iload_n (pc' := 22) (z := -1) rfl rfl ?_)
    refine wp_of e22 c22_22 (rw_if_lt (p1 := 44) (p2 := 25) (by decide) rfl ⟨by omega, by omega⟩ (fun c8235 => ?_) (fun c8235 => ?_))
    · refine wp_of e22 c22_44 (rw_iconst (pc' := 45) rfl ?_)
      refine wp_of e22 c22_45 (rw_istore_n (pc' := 46) (z := -1) (L' := [(3, vI (-1)), (2, vI (-1)), (0, .ref r0), (1, .ref r1)]) rfl rfl rfl ?_)
      refine wp_of e22 c22_46 (rw_iload_n (pc' := 47) (z := -1) rfl rfl ?_)
      refine wp_of e22 c22_47 (rw_if_lt (p1 := 68) (p2 := 50) (by decide) rfl ⟨by omega, by omega⟩ (fun c8236 => ?_) (fun c8236 => ?_))
      · refine wp_of e22 c22_68 (rw_iconst (pc' := 69) rfl ?_)
        refine wp_of e22 c22_69 (rw_istore (pc' := 71) (z := -1) (L' := [(4, vI (-1)), (3, vI (-1)), (2, vI (-1)), (0, .ref r0), (1, .ref r1)]) rfl rfl rfl ?_)
        refine wp_of e22 c22_71 (rw_iload (pc' := 73) (z := -1) rfl rfl ?_)
        refine wp_of e22 c22_73 (rw_if_ge (p1 := 78) (p2 := 76) (by decide) rfl ⟨by omega, by omega⟩ (fun c8237 => ?_) (fun c8237 => ?_))
        · exfalso
          omega
        · refine wp_of e22 c22_76 (rw_iconst (pc' := 77) rfl ?_)
          exact wp_zreturn e22 c22_77 rfl (by omega) ⟨rfl, w8229, f8233, 0, rfl, ⟨by omega, by omega⟩⟩
      · exfalso
        omega
    · exfalso
      omega
  · refine wp_of e22 c22_9 (rw_aload_n (pc' := 10) (v := .ref r0) rfl rfl rfl ?_)
    refine wp_of e22 c22_10 (rw_iconst (pc' := 11) rfl ?_)
    refine wp_of e22 c22_11 (rw_bipush (pc' := 13) (z := 24) rfl (by decide) ?_)
    have k8238 : H8225 r0 0 = H r0 0 := (f8230 r0 0 _ g0 rfl)
    have q8239 : H8225 r0 0 = (tk : Int) := k8238.trans qtk
    have k8240 : H8225 tk 0 = H tk 0 := (f8230 tk 0 _ gtk rfl)
    have q8241 : H8225 tk 0 = (rb : Int) := k8240.trans qrb
    refine wp_of e22 c22_13 (xc_V (pc' := 16) (r := r0) (as := [vI 1, vI 24]) (st := []) (lm_1_119) rfl rfl (Nat.le_of_ble_eq_true rfl) w8229 g0 sh_3 (by decide) rfl (by decide) (s_24 w8229 g0 ⟨by omega, by omega⟩ ⟨by omega, by omega⟩ q8239 gtk q8241 grb) (fun R8242 T8243 H8244 p8245 => ?_))
    obtain ⟨e8246, w8248, f8249, z8251, e8247, b8252, p8250⟩ := p8245
    subst e8246
    subst e8247
    have f8253 := f8233.tr f8249 rfl
    show wp _ _ 22 16 [(0, .ref r0), (1, .ref r1)] [vI z8251] _ H8244 _
    refine wp_of e22 c22_16 (rw_goto (p1 := 20) (by decide) ?_)
    refine wp_of e22 c22_20 (rw_istore_n (pc' := 21) (z := z8251) (L' := [(2, vI z8251), (0, .ref r0), (1, .ref r1)]) rfl rfl rfl ?_)
    refine wp_of e22 c22_21 (rw_iload_n (pc' := 22) (z := z8251) rfl rfl ?_)
    refine wp_of e22 c22_22 (rw_if_lt (p1 := 44) (p2 := 25) (by decide) rfl ⟨by omega, by omega⟩ (fun c8254 => ?_) (fun c8254 => ?_))
    · refine wp_of e22 c22_44 (rw_iconst (pc' := 45) rfl ?_)
      refine wp_of e22 c22_45 (rw_istore_n (pc' := 46) (z := -1) (L' := [(3, vI (-1)), (2, vI z8251), (0, .ref r0), (1, .ref r1)]) rfl rfl rfl ?_)
      refine wp_of e22 c22_46 (rw_iload_n (pc' := 47) (z := -1) rfl rfl ?_)
      refine wp_of e22 c22_47 (rw_if_lt (p1 := 68) (p2 := 50) (by decide) rfl ⟨by omega, by omega⟩ (fun c8255 => ?_) (fun c8255 => ?_))
      · refine wp_of e22 c22_68 (rw_iconst (pc' := 69) rfl ?_)
        refine wp_of e22 c22_69 (rw_istore (pc' := 71) (z := -1) (L' := [(4, vI (-1)), (3, vI (-1)), (2, vI z8251), (0, .ref r0), (1, .ref r1)]) rfl rfl rfl ?_)
        refine wp_of e22 c22_71 (rw_iload (pc' := 73) (z := -1) rfl rfl ?_)
        refine wp_of e22 c22_73 (rw_if_ge (p1 := 78) (p2 := 76) (by decide) rfl ⟨by omega, by omega⟩ (fun c8256 => ?_) (fun c8256 => ?_))
        · exfalso
          omega
        · refine wp_of e22 c22_76 (rw_iconst (pc' := 77) rfl ?_)
          exact wp_zreturn e22 c22_77 rfl (by omega) ⟨rfl, w8248, f8253, 0, rfl, ⟨by omega, by omega⟩⟩
      · exfalso
        omega
    · refine wp_of e22 c22_25 (rw_aload_n (pc' := 26) (v := .ref r0) rfl rfl rfl ?_)
      refine wp_of e22 c22_26 (rw_ldcS (pc' := 28) (k := 65) rfl rfl rfl rfl ?_)
      have k8257 : H8244 r0 0 = H8225 r0 0 := (f8249 r0 0 _ g0 rfl)
      have q8258 : H8244 r0 0 = (tk : Int) := k8257.trans q8239
      have k8259 : H8244 tk 0 = H8225 tk 0 := (f8249 tk 0 _ gtk rfl)
      have q8260 : H8244 tk 0 = (rb : Int) := k8259.trans q8241
      refine wp_of e22 c22_28 (xc_V (pc' := 31) (r := r0) (as := [.ref 65]) (st := []) (lm_1_115) rfl rfl (Nat.le_of_ble_eq_true rfl) w8248 g0 sh_3 (by decide) rfl (by decide) (s_23 w8248 g0 rfl q8258 gtk q8260 grb) (fun R8261 T8262 H8263 p8264 => ?_))
      obtain ⟨e8265, w8267, f8268, z8269, e8266, b8270⟩ := p8264
      subst e8265
      subst e8266
      have f8271 := f8253.tr f8268 rfl
      show wp _ _ 22 31 [(2, vI z8251), (0, .ref r0), (1, .ref r1)] [vI z8269] _ H8263 _
      refine wp_of e22 c22_31 (rw_if_eq (p1 := 44) (p2 := 34) (by decide) rfl ⟨by omega, by omega⟩ (fun c8272 => ?_) (fun c8272 => ?_))
      · refine wp_of e22 c22_44 (rw_iconst (pc' := 45) rfl ?_)
        refine wp_of e22 c22_45 (rw_istore_n (pc' := 46) (z := -1) (L' := [(3, vI (-1)), (2, vI z8251), (0, .ref r0), (1, .ref r1)]) rfl rfl rfl ?_)
        refine wp_of e22 c22_46 (rw_iload_n (pc' := 47) (z := -1) rfl rfl ?_)
        refine wp_of e22 c22_47 (rw_if_lt (p1 := 68) (p2 := 50) (by decide) rfl ⟨by omega, by omega⟩ (fun c8273 => ?_) (fun c8273 => ?_))
        · refine wp_of e22 c22_68 (rw_iconst (pc' := 69) rfl ?_)
          refine wp_of e22 c22_69 (rw_istore (pc' := 71) (z := -1) (L' := [(4, vI (-1)), (3, vI (-1)), (2, vI z8251), (0, .ref r0), (1, .ref r1)]) rfl rfl rfl ?_)
          refine wp_of e22 c22_71 (rw_iload (pc' := 73) (z := -1) rfl rfl ?_)
          refine wp_of e22 c22_73 (rw_if_ge (p1 := 78) (p2 := 76) (by decide) rfl ⟨by omega, by omega⟩ (fun c8274 => ?_) (fun c8274 => ?_))
          · exfalso
            omega
          · refine wp_of e22 c22_76 (rw_iconst (pc' := 77) rfl ?_)
            exact wp_zreturn e22 c22_77 rfl (by omega) ⟨rfl, w8267, f8271, 0, rfl, ⟨by omega, by omega⟩⟩
        · exfalso
          omega
      · refine wp_of e22 c22_34 (rw_aload_n (pc' := 35) (v := .ref r0) rfl rfl rfl ?_)
        refine wp_of e22 c22_35 (rw_iconst (pc' := 36) rfl ?_)
        refine wp_of e22 c22_36 (rw_bipush (pc' := 38) (z := 9) rfl (by decide) ?_)
        have k8275 : H8263 r0 0 = H8244 r0 0 := (f8268 r0 0 _ g0 rfl)
        have q8276 : H8263 r0 0 = (tk : Int) := k8275.trans q8258
        have k8277 : H8263 tk 0 = H8244 tk 0 := (f8268 tk 0 _ gtk rfl)
        have q8278 : H8263 tk 0 = (rb : Int) := k8277.trans q8260
        refine wp_of e22 c22_38 (xc_V (pc' := 41) (r := r0) (as := [vI 0, vI 9]) (st := []) (lm_1_119) rfl rfl (Nat.le_of_ble_eq_true rfl) w8267 g0 sh_3 (by decide) rfl (by decide) (s_24 w8267 g0 ⟨by omega, by omega⟩ ⟨by omega, by omega⟩ q8276 gtk q8278 grb) (fun R8279 T8280 H8281 p8282 => ?_))
        obtain ⟨e8283, w8285, f8286, z8288, e8284, b8289, p8287⟩ := p8282
        subst e8283
        subst e8284
        have f8290 := f8271.tr f8286 rfl
        show wp _ _ 22 41 [(2, vI z8251), (0, .ref r0), (1, .ref r1)] [vI z8288] _ H8281 _
        refine wp_of e22 c22_41 (rw_goto (p1 := 45) (by decide) ?_)
        refine wp_of e22 c22_45 (rw_istore_n (pc' := 46) (z := z8288) (L' := [(3, vI z8288), (2, vI z8251), (0, .ref r0), (1, .ref r1)]) rfl rfl rfl ?_)
        refine wp_of e22 c22_46 (rw_iload_n (pc' := 47) (z := z8288) rfl rfl ?_)
        refine wp_of e22 c22_47 (rw_if_lt (p1 := 68) (p2 := 50) (by decide) rfl ⟨by omega, by omega⟩ (fun c8291 => ?_) (fun c8291 => ?_))
        · refine wp_of e22 c22_68 (rw_iconst (pc' := 69) rfl ?_)
          refine wp_of e22 c22_69 (rw_istore (pc' := 71) (z := -1) (L' := [(4, vI (-1)), (3, vI z8288), (2, vI z8251), (0, .ref r0), (1, .ref r1)]) rfl rfl rfl ?_)
          refine wp_of e22 c22_71 (rw_iload (pc' := 73) (z := -1) rfl rfl ?_)
          refine wp_of e22 c22_73 (rw_if_ge (p1 := 78) (p2 := 76) (by decide) rfl ⟨by omega, by omega⟩ (fun c8292 => ?_) (fun c8292 => ?_))
          · exfalso
            omega
          · refine wp_of e22 c22_76 (rw_iconst (pc' := 77) rfl ?_)
            exact wp_zreturn e22 c22_77 rfl (by omega) ⟨rfl, w8285, f8290, 0, rfl, ⟨by omega, by omega⟩⟩
        · refine wp_of e22 c22_50 (rw_aload_n (pc' := 51) (v := .ref r0) rfl rfl rfl ?_)
          refine wp_of e22 c22_51 (rw_ldcS (pc' := 53) (k := 66) rfl rfl rfl rfl ?_)
          have k8293 : H8281 r0 0 = H8263 r0 0 := (f8286 r0 0 _ g0 rfl)
          have q8294 : H8281 r0 0 = (tk : Int) := k8293.trans q8276
          have k8295 : H8281 tk 0 = H8263 tk 0 := (f8286 tk 0 _ gtk rfl)
          have q8296 : H8281 tk 0 = (rb : Int) := k8295.trans q8278
          refine wp_of e22 c22_53 (xc_V (pc' := 56) (r := r0) (as := [.ref 66]) (st := []) (lm_1_115) rfl rfl (Nat.le_of_ble_eq_true rfl) w8285 g0 sh_3 (by decide) rfl (by decide) (s_23 w8285 g0 rfl q8294 gtk q8296 grb) (fun R8297 T8298 H8299 p8300 => ?_))
          obtain ⟨e8301, w8303, f8304, z8305, e8302, b8306⟩ := p8300
          subst e8301
          subst e8302
          have f8307 := f8290.tr f8304 rfl
          show wp _ _ 22 56 [(3, vI z8288), (2, vI z8251), (0, .ref r0), (1, .ref r1)] [vI z8305] _ H8299 _
          refine wp_of e22 c22_56 (rw_if_eq (p1 := 68) (p2 := 59) (by decide) rfl ⟨by omega, by omega⟩ (fun c8308 => ?_) (fun c8308 => ?_))
          · refine wp_of e22 c22_68 (rw_iconst (pc' := 69) rfl ?_)
            refine wp_of e22 c22_69 (rw_istore (pc' := 71) (z := -1) (L' := [(4, vI (-1)), (3, vI z8288), (2, vI z8251), (0, .ref r0), (1, .ref r1)]) rfl rfl rfl ?_)
            refine wp_of e22 c22_71 (rw_iload (pc' := 73) (z := -1) rfl rfl ?_)
            refine wp_of e22 c22_73 (rw_if_ge (p1 := 78) (p2 := 76) (by decide) rfl ⟨by omega, by omega⟩ (fun c8309 => ?_) (fun c8309 => ?_))
            · exfalso
              omega
            · refine wp_of e22 c22_76 (rw_iconst (pc' := 77) rfl ?_)
              exact wp_zreturn e22 c22_77 rfl (by omega) ⟨rfl, w8303, f8307, 0, rfl, ⟨by omega, by omega⟩⟩
          · refine wp_of e22 c22_59 (rw_aload_n (pc' := 60) (v := .ref r0) rfl rfl rfl ?_)
            refine wp_of e22 c22_60 (rw_iconst (pc' := 61) rfl ?_)
            refine wp_of e22 c22_61 (rw_iconst (pc' := 62) rfl ?_)
            have k8310 : H8299 r0 0 = H8281 r0 0 := (f8304 r0 0 _ g0 rfl)
            have q8311 : H8299 r0 0 = (tk : Int) := k8310.trans q8294
            have k8312 : H8299 tk 0 = H8281 tk 0 := (f8304 tk 0 _ gtk rfl)
            have q8313 : H8299 tk 0 = (rb : Int) := k8312.trans q8296
            refine wp_of e22 c22_62 (xc_V (pc' := 65) (r := r0) (as := [vI 0, vI 3]) (st := []) (lm_1_119) rfl rfl (Nat.le_of_ble_eq_true rfl) w8303 g0 sh_3 (by decide) rfl (by decide) (s_24 w8303 g0 ⟨by omega, by omega⟩ ⟨by omega, by omega⟩ q8311 gtk q8313 grb) (fun R8314 T8315 H8316 p8317 => ?_))
            obtain ⟨e8318, w8320, f8321, z8323, e8319, b8324, p8322⟩ := p8317
            subst e8318
            subst e8319
            have f8325 := f8307.tr f8321 rfl
            show wp _ _ 22 65 [(3, vI z8288), (2, vI z8251), (0, .ref r0), (1, .ref r1)] [vI z8323] _ H8316 _
            refine wp_of e22 c22_65 (rw_goto (p1 := 69) (by decide) ?_)
            refine wp_of e22 c22_69 (rw_istore (pc' := 71) (z := z8323) (L' := [(4, vI z8323), (3, vI z8288), (2, vI z8251), (0, .ref r0), (1, .ref r1)]) rfl rfl rfl ?_)
            refine wp_of e22 c22_71 (rw_iload (pc' := 73) (z := z8323) rfl rfl ?_)
            refine wp_of e22 c22_73 (rw_if_ge (p1 := 78) (p2 := 76) (by decide) rfl ⟨by omega, by omega⟩ (fun c8326 => ?_) (fun c8326 => ?_))
            · refine wp_of e22 c22_78 (rw_aload_n (pc' := 79) (v := .ref r1) rfl rfl rfl ?_)
              refine wp_of e22 c22_79 (rw_iload_n (pc' := 80) (z := z8251) rfl rfl ?_)
              refine wp_of e22 c22_80 (xp_I (pc' := 83) lf_1_41 w8320 g1 sh_27 (by decide) (by decide) ty_27_7 rfl rfl (by omega) (by omega) ⟨by omega, by omega⟩ rfl (fun H8327 e8328 w8329 => ?_))
              have f8330 := f8325.put' e8328 g1 rfl
              have k8331 : H8327 r1 7 = z8251 := wq_u_s e8328
              refine wp_of e22 c22_83 (rw_aload_n (pc' := 84) (v := .ref r1) rfl rfl rfl ?_)
              refine wp_of e22 c22_84 (rw_iload_n (pc' := 85) (z := z8288) rfl rfl ?_)
              refine wp_of e22 c22_85 (xp_I (pc' := 88) lf_1_127 w8329 g1 sh_27 (by decide) (by decide) ty_27_8 rfl rfl (by omega) (by omega) ⟨by omega, by omega⟩ rfl (fun H8332 e8333 w8334 => ?_))
              have f8335 := f8330.put' e8333 g1 rfl
              have k8336 : H8332 r1 8 = z8288 := wq_u_s e8333
              refine wp_of e22 c22_88 (rw_aload_n (pc' := 89) (v := .ref r1) rfl rfl rfl ?_)
              refine wp_of e22 c22_89 (rw_iload (pc' := 91) (z := z8323) rfl rfl ?_)
              refine wp_of e22 c22_91 (xp_I (pc' := 94) lf_1_129 w8334 g1 sh_27 (by decide) (by decide) ty_27_9 rfl rfl (by omega) (by omega) ⟨by omega, by omega⟩ rfl (fun H8337 e8338 w8339 => ?_))
              have f8340 := f8335.put' e8338 g1 rfl
              have k8341 : H8337 r1 9 = z8323 := wq_u_s e8338
              refine wp_of e22 c22_94 (rw_iconst (pc' := 95) rfl ?_)
              exact wp_zreturn e22 c22_95 rfl (by omega) ⟨rfl, w8339, f8340, 1, rfl, ⟨by omega, by omega⟩⟩
            · refine wp_of e22 c22_76 (rw_iconst (pc' := 77) rfl ?_)
              exact wp_zreturn e22 c22_77 rfl (by omega) ⟨rfl, w8320, f8325, 0, rfl, ⟨by omega, by omega⟩⟩
/-! StrikeAwake$Reader.isName()Z -/
theorem e26 : wq_en 26 = some (1, 1, false, some FieldType.boolean) := rfl
theorem c26_0 : mc_cd 26 0 = some (.aload_n 0, 1) := by decide +kernel
theorem c26_1 : mc_cd 26 1 = some (.getfield 12, 3) := by decide +kernel
theorem c26_4 : mc_cd 26 4 = some (.getfield 38, 3) := by decide +kernel
theorem c26_7 : mc_cd 26 7 = some (.iconst 1, 1) := by decide +kernel
theorem c26_8 : mc_cd 26 8 = some (.if_icmp .ne 14, 3) := by decide +kernel
theorem c26_11 : mc_cd 26 11 = some (.aload_n 0, 1) := by decide +kernel
theorem c26_12 : mc_cd 26 12 = some (.invokevirtual 54, 3) := by decide +kernel
theorem c26_15 : mc_cd 26 15 = some (.ifnonnull 7, 3) := by decide +kernel
theorem c26_18 : mc_cd 26 18 = some (.iconst 1, 1) := by decide +kernel
theorem c26_19 : mc_cd 26 19 = some (.goto 4, 3) := by decide +kernel
theorem c26_22 : mc_cd 26 22 = some (.iconst 0, 1) := by decide +kernel
theorem c26_23 : mc_cd 26 23 = some (.ireturn, 1) := by decide +kernel
abbrev q_26 (r0 : Nat) (T : wq_T) (H : wq_H) : Option Value → wq_T → wq_H → Prop := fun r T' H' => T = T' ∧ H = H' ∧ ∃ z : Int, some (vI z) = r ∧ (0 ≤ z ∧ z ≤ 1)
set_option maxHeartbeats 4000000 in
theorem s_26 {kt : Nat → Option mc_E} {T : wq_T} {H : wq_H} {r0 : Nat} (hW : WT T H) (g0 : T.2.2.2 r0 = some 3) : wpc kt 3 26 [.ref r0] T H (q_26 r0 T H) := by
  refine wp_enter e26 (Nat.le_of_ble_eq_true rfl) rfl ?_
  show wp _ _ 26 0 [(0, .ref r0)] [] _ H _
  refine wp_of e26 c26_0 (rw_aload_n (pc' := 1) (v := .ref r0) rfl rfl rfl ?_)
  refine wp_of e26 c26_1 (xg_R (pc' := 4) lf_1_12 hW g0 sh_3 (by decide) (by decide) ty_3_0 rfl rfl (fun r8359 q8360 g8361 => ?_))
  refine wp_of e26 c26_4 (xg_I (pc' := 7) lf_1_38 hW g8361 sh_4 (by decide) (by decide) ty_4_3 rfl rfl (fun b8362 b8363 => ?_))
  refine wp_of e26 c26_7 (rw_iconst (pc' := 8) rfl ?_)
  refine wp_of e26 c26_8 (rw_icmp_ne (p1 := 22) (p2 := 11) (by decide) rfl ⟨by omega, by omega⟩ ⟨by omega, by omega⟩ (fun c8364 => ?_) (fun c8364 => ?_))
  · refine wp_of e26 c26_22 (rw_iconst (pc' := 23) rfl ?_)
    exact wp_zreturn e26 c26_23 rfl (by omega) ⟨rfl, rfl, 0, rfl, ⟨by omega, by omega⟩⟩
  · refine wp_of e26 c26_11 (rw_aload_n (pc' := 12) (v := .ref r0) rfl rfl rfl ?_)
    refine wp_of e26 c26_12 (xc_V (pc' := 15) (r := r0) (as := []) (st := []) (lm_1_54) rfl rfl (Nat.le_of_ble_eq_true rfl) hW g0 sh_3 (by decide) rfl (by decide) (s_18 hW g0) (fun R8365 T8366 H8367 p8368 => ?_))
    obtain ⟨e8369, e8371, e8370⟩ := p8368
    subst e8369
    subst e8371
    rcases e8370 with e8370 | ⟨r8372, e8370, b8373, b8374⟩
    · subst e8370
      show wp _ _ 26 15 [(0, .ref r0)] [.null] _ H _
      refine wp_of e26 c26_15 (rw_ifnonnull_n (p1 := 22) (p2 := 18) (by decide) rfl ?_)
      refine wp_of e26 c26_18 (rw_iconst (pc' := 19) rfl ?_)
      refine wp_of e26 c26_19 (rw_goto (p1 := 23) (by decide) ?_)
      exact wp_zreturn e26 c26_23 rfl (by omega) ⟨rfl, rfl, 1, rfl, ⟨by omega, by omega⟩⟩
    · subst e8370
      have c8375 : r8372 = 16 ∨ r8372 = 17 ∨ r8372 = 18 ∨ r8372 = 19 ∨ r8372 = 20 ∨ r8372 = 21 ∨ r8372 = 22 ∨ r8372 = 23 ∨ r8372 = 24 ∨ r8372 = 25 ∨ r8372 = 26 := by omega
      rcases c8375 with c8375 | c8375 | c8375 | c8375 | c8375 | c8375 | c8375 | c8375 | c8375 | c8375 | c8375
      · subst c8375
        show wp _ _ 26 15 [(0, .ref r0)] [.ref 16] _ H _
        refine wp_of e26 c26_15 (rw_ifnonnull_r (p1 := 22) (p2 := 18) (by decide) rfl ?_)
        refine wp_of e26 c26_22 (rw_iconst (pc' := 23) rfl ?_)
        exact wp_zreturn e26 c26_23 rfl (by omega) ⟨rfl, rfl, 0, rfl, ⟨by omega, by omega⟩⟩
      · subst c8375
        show wp _ _ 26 15 [(0, .ref r0)] [.ref 17] _ H _
        refine wp_of e26 c26_15 (rw_ifnonnull_r (p1 := 22) (p2 := 18) (by decide) rfl ?_)
        refine wp_of e26 c26_22 (rw_iconst (pc' := 23) rfl ?_)
        exact wp_zreturn e26 c26_23 rfl (by omega) ⟨rfl, rfl, 0, rfl, ⟨by omega, by omega⟩⟩
      · subst c8375
        show wp _ _ 26 15 [(0, .ref r0)] [.ref 18] _ H _
        refine wp_of e26 c26_15 (rw_ifnonnull_r (p1 := 22) (p2 := 18) (by decide) rfl ?_)
        refine wp_of e26 c26_22 (rw_iconst (pc' := 23) rfl ?_)
        exact wp_zreturn e26 c26_23 rfl (by omega) ⟨rfl, rfl, 0, rfl, ⟨by omega, by omega⟩⟩
      · subst c8375
        show wp _ _ 26 15 [(0, .ref r0)] [.ref 19] _ H _
        refine wp_of e26 c26_15 (rw_ifnonnull_r (p1 := 22) (p2 := 18) (by decide) rfl ?_)
        refine wp_of e26 c26_22 (rw_iconst (pc' := 23) rfl ?_)
        exact wp_zreturn e26 c26_23 rfl (by omega) ⟨rfl, rfl, 0, rfl, ⟨by omega, by omega⟩⟩
      · subst c8375
        show wp _ _ 26 15 [(0, .ref r0)] [.ref 20] _ H _
        refine wp_of e26 c26_15 (rw_ifnonnull_r (p1 := 22) (p2 := 18) (by decide) rfl ?_)
        refine wp_of e26 c26_22 (rw_iconst (pc' := 23) rfl ?_)
        exact wp_zreturn e26 c26_23 rfl (by omega) ⟨rfl, rfl, 0, rfl, ⟨by omega, by omega⟩⟩
      · subst c8375
        show wp _ _ 26 15 [(0, .ref r0)] [.ref 21] _ H _
        refine wp_of e26 c26_15 (rw_ifnonnull_r (p1 := 22) (p2 := 18) (by decide) rfl ?_)
        refine wp_of e26 c26_22 (rw_iconst (pc' := 23) rfl ?_)
        exact wp_zreturn e26 c26_23 rfl (by omega) ⟨rfl, rfl, 0, rfl, ⟨by omega, by omega⟩⟩
      · subst c8375
        show wp _ _ 26 15 [(0, .ref r0)] [.ref 22] _ H _
        refine wp_of e26 c26_15 (rw_ifnonnull_r (p1 := 22) (p2 := 18) (by decide) rfl ?_)
        refine wp_of e26 c26_22 (rw_iconst (pc' := 23) rfl ?_)
        exact wp_zreturn e26 c26_23 rfl (by omega) ⟨rfl, rfl, 0, rfl, ⟨by omega, by omega⟩⟩
      · subst c8375
        show wp _ _ 26 15 [(0, .ref r0)] [.ref 23] _ H _
        refine wp_of e26 c26_15 (rw_ifnonnull_r (p1 := 22) (p2 := 18) (by decide) rfl ?_)
        refine wp_of e26 c26_22 (rw_iconst (pc' := 23) rfl ?_)
        exact wp_zreturn e26 c26_23 rfl (by omega) ⟨rfl, rfl, 0, rfl, ⟨by omega, by omega⟩⟩
      · subst c8375
        show wp _ _ 26 15 [(0, .ref r0)] [.ref 24] _ H _
        refine wp_of e26 c26_15 (rw_ifnonnull_r (p1 := 22) (p2 := 18) (by decide) rfl ?_)
        refine wp_of e26 c26_22 (rw_iconst (pc' := 23) rfl ?_)
        exact wp_zreturn e26 c26_23 rfl (by omega) ⟨rfl, rfl, 0, rfl, ⟨by omega, by omega⟩⟩
      · subst c8375
        show wp _ _ 26 15 [(0, .ref r0)] [.ref 25] _ H _
        refine wp_of e26 c26_15 (rw_ifnonnull_r (p1 := 22) (p2 := 18) (by decide) rfl ?_)
        refine wp_of e26 c26_22 (rw_iconst (pc' := 23) rfl ?_)
        exact wp_zreturn e26 c26_23 rfl (by omega) ⟨rfl, rfl, 0, rfl, ⟨by omega, by omega⟩⟩
      · subst c8375
        show wp _ _ 26 15 [(0, .ref r0)] [.ref 26] _ H _
        refine wp_of e26 c26_15 (rw_ifnonnull_r (p1 := 22) (p2 := 18) (by decide) rfl ?_)
        refine wp_of e26 c26_22 (rw_iconst (pc' := 23) rfl ?_)
        exact wp_zreturn e26 c26_23 rfl (by omega) ⟨rfl, rfl, 0, rfl, ⟨by omega, by omega⟩⟩
/-! StrikeAwake$Parish.personNamed(J)I -/
theorem e27 : wq_en 27 = some (7, 4, false, some FieldType.int) := rfl
theorem c27_0 : mc_cd 27 0 = some (.iconst 0, 1) := by decide +kernel
theorem c27_1 : mc_cd 27 1 = some (.istore_n 3, 1) := by decide +kernel
theorem c27_2 : mc_cd 27 2 = some (.iload_n 3, 1) := by decide +kernel
theorem c27_3 : mc_cd 27 3 = some (.aload_n 0, 1) := by decide +kernel
theorem c27_4 : mc_cd 27 4 = some (.getfield 50, 3) := by decide +kernel
theorem c27_7 : mc_cd 27 7 = some (.if_icmp .ge 25, 3) := by decide +kernel
theorem c27_10 : mc_cd 27 10 = some (.aload_n 0, 1) := by decide +kernel
theorem c27_11 : mc_cd 27 11 = some (.getfield 11, 3) := by decide +kernel
theorem c27_14 : mc_cd 27 14 = some (.iload_n 3, 1) := by decide +kernel
theorem c27_15 : mc_cd 27 15 = some (.aaload, 1) := by decide +kernel
theorem c27_16 : mc_cd 27 16 = some (.getfield 86, 3) := by decide +kernel
theorem c27_19 : mc_cd 27 19 = some (.lload_n 1, 1) := by decide +kernel
theorem c27_20 : mc_cd 27 20 = some (.lcmp, 1) := by decide +kernel
theorem c27_21 : mc_cd 27 21 = some (.ifCond .ne 5, 3) := by decide +kernel
theorem c27_24 : mc_cd 27 24 = some (.iload_n 3, 1) := by decide +kernel
theorem c27_25 : mc_cd 27 25 = some (.ireturn, 1) := by decide +kernel
theorem c27_26 : mc_cd 27 26 = some (.iinc 3 1, 3) := by decide +kernel
theorem c27_29 : mc_cd 27 29 = some (.goto (-27), 3) := by decide +kernel
theorem c27_32 : mc_cd 27 32 = some (.iconst (-1), 1) := by decide +kernel
theorem c27_33 : mc_cd 27 33 = some (.ireturn, 1) := by decide +kernel
abbrev q_27 (r0 : Nat) (a1 : Int) (T : wq_T) (H : wq_H) : Option Value → wq_T → wq_H → Prop := fun r T' H' => T = T' ∧ H = H' ∧ ∃ z : Int, some (vI z) = r ∧ ((-1) ≤ z ∧ z ≤ 5)
set_option maxHeartbeats 4000000 in
theorem s_27 {kt : Nat → Option mc_E} {T : wq_T} {H : wq_H} {r0 : Nat} {a1 : Int} (hW : WT T H) (g0 : T.2.2.2 r0 = some 27) (i1 : (-9223372036854775808) ≤ a1 ∧ a1 ≤ 9223372036854775807) : wpc kt 1 27 [.ref r0, vL a1] T H (q_27 r0 a1 T H) := by
  refine wp_enter e27 (Nat.le_of_ble_eq_true rfl) rfl ?_
  show wp _ _ 27 0 [(0, .ref r0), (1, vL a1)] [] _ H _
  refine wp_of e27 c27_0 (rw_iconst (pc' := 1) rfl ?_)
  refine wp_of e27 c27_1 (rw_istore_n (pc' := 2) (z := 0) (L' := [(3, vI 0), (0, .ref r0), (1, vL a1)]) rfl rfl rfl ?_)
  have lp8572 : ∀ (n8573 : Nat) (v8575 : Int), (0 ≤ v8575 ∧ v8575 ≤ 6) → (6 - v8575).toNat = n8573 → wp kt 0 27 2 [(3, vI v8575), (0, .ref r0), (1, vL a1)] [] T H (q_27 r0 a1 T H) := by
    intro n8573
    induction n8573 using Nat.strongRecOn with
    | _ n8573 ih8574 =>
      intro v8575 b8578 m8579
      refine wp_of e27 c27_2 (rw_iload_n (pc' := 3) (z := v8575) rfl rfl ?_)
      refine wp_of e27 c27_3 (rw_aload_n (pc' := 4) (v := .ref r0) rfl rfl rfl ?_)
      refine wp_of e27 c27_4 (xg_I (pc' := 7) lf_7_50 hW g0 sh_27 (by decide) (by decide) ty_27_10 rfl rfl (fun b8580 b8581 => ?_))
      refine wp_of e27 c27_7 (rw_icmp_ge (p1 := 32) (p2 := 10) (by decide) rfl ⟨by omega, by omega⟩ ⟨by omega, by omega⟩ (fun c8582 => ?_) (fun c8582 => ?_))
      · refine wp_of e27 c27_32 (rw_iconst (pc' := 33) rfl ?_)
        exact wp_ireturn e27 c27_33 rfl ⟨rfl, rfl, -1, rfl, ⟨by omega, by omega⟩⟩
      · refine wp_of e27 c27_10 (rw_aload_n (pc' := 11) (v := .ref r0) rfl rfl rfl ?_)
        refine wp_of e27 c27_11 (xg_R (pc' := 14) lf_7_11 hW g0 sh_27 (by decide) (by decide) ty_27_0 rfl rfl (fun r8583 q8584 g8585 => ?_))
        refine wp_of e27 c27_14 (rw_iload_n (pc' := 15) (z := v8575) rfl rfl ?_)
        refine wp_of e27 c27_15 (xa_R (pc' := 16) (by decide) hW g8585 sh_28 (by decide) (ty_28 _) (by omega) (by omega) rfl (fun r8586 q8587 g8588 => ?_))
        refine wp_of e27 c27_16 (xg_L (pc' := 19) lf_7_86 hW g8588 sh_35 (by decide) (by decide) ty_35_6 rfl rfl (fun b8589 b8590 => ?_))
        refine wp_of e27 c27_19 (rw_lload_n (pc' := 20) (z := a1) rfl rfl ?_)
        refine wp_of e27 c27_20 (rw_lcmp (pc' := 21) rfl ⟨by omega, by omega⟩ ⟨by omega, by omega⟩ ?_)
        have b8591 := wq_cmp_b (H r8586 6) a1
        refine wp_of e27 c27_21 (rw_if_ne (p1 := 26) (p2 := 24) (by decide) rfl ⟨by omega, by omega⟩ (fun c8592 => ?_) (fun c8592 => ?_))
        · refine wp_of e27 c27_26 (rw_iinc (pc' := 29) (z := v8575) (L' := [(3, vI (v8575 + 1)), (0, .ref r0), (1, vL a1)]) rfl rfl rfl rfl ?_)
          refine wp_of e27 c27_29 (rw_goto (p1 := 2) (by decide) ?_)
          exact wp_lc (ks := [3, 0, 1]) (wl_c rfl (wl_c rfl (wl_c rfl wl_n))) rfl (by decide) (ih8574 _ (by omega) (v8575 + 1) ⟨by omega, by omega⟩ rfl)
        · refine wp_of e27 c27_24 (rw_iload_n (pc' := 25) (z := v8575) rfl rfl ?_)
          exact wp_ireturn e27 c27_25 rfl ⟨rfl, rfl, v8575, rfl, ⟨by omega, by omega⟩⟩
  exact wp_lc (ks := [3, 0, 1]) (wl_c rfl (wl_c rfl (wl_c rfl wl_n))) rfl (by decide) (lp8572 _ 0 ⟨by omega, by omega⟩ rfl)
/-! StrikeAwake$Person.clear(J)V -/
theorem e28 : wq_en 28 = some (8, 3, false, none) := rfl
theorem c28_0 : mc_cd 28 0 = some (.aload_n 0, 1) := by decide +kernel
theorem c28_1 : mc_cd 28 1 = some (.lload_n 1, 1) := by decide +kernel
theorem c28_2 : mc_cd 28 2 = some (.putfield 31, 3) := by decide +kernel
theorem c28_5 : mc_cd 28 5 = some (.aload_n 0, 1) := by decide +kernel
theorem c28_6 : mc_cd 28 6 = some (.iconst (-1), 1) := by decide +kernel
theorem c28_7 : mc_cd 28 7 = some (.putfield 35, 3) := by decide +kernel
theorem c28_10 : mc_cd 28 10 = some (.aload_n 0, 1) := by decide +kernel
theorem c28_11 : mc_cd 28 11 = some (.iconst 0, 1) := by decide +kernel
theorem c28_12 : mc_cd 28 12 = some (.putfield 39, 3) := by decide +kernel
theorem c28_15 : mc_cd 28 15 = some (.aload_n 0, 1) := by decide +kernel
theorem c28_16 : mc_cd 28 16 = some (.iconst 0, 1) := by decide +kernel
theorem c28_17 : mc_cd 28 17 = some (.putfield 42, 3) := by decide +kernel
theorem c28_20 : mc_cd 28 20 = some (.aload_n 0, 1) := by decide +kernel
theorem c28_21 : mc_cd 28 21 = some (.iconst 0, 1) := by decide +kernel
theorem c28_22 : mc_cd 28 22 = some (.putfield 46, 3) := by decide +kernel
theorem c28_25 : mc_cd 28 25 = some (.aload_n 0, 1) := by decide +kernel
theorem c28_26 : mc_cd 28 26 = some (.iconst 0, 1) := by decide +kernel
theorem c28_27 : mc_cd 28 27 = some (.putfield 49, 3) := by decide +kernel
theorem c28_30 : mc_cd 28 30 = some (.aload_n 0, 1) := by decide +kernel
theorem c28_31 : mc_cd 28 31 = some (.iconst 0, 1) := by decide +kernel
theorem c28_32 : mc_cd 28 32 = some (.putfield 52, 3) := by decide +kernel
theorem c28_35 : mc_cd 28 35 = some (.aload_n 0, 1) := by decide +kernel
theorem c28_36 : mc_cd 28 36 = some (.iconst 0, 1) := by decide +kernel
theorem c28_37 : mc_cd 28 37 = some (.putfield 55, 3) := by decide +kernel
theorem c28_40 : mc_cd 28 40 = some (.return_, 1) := by decide +kernel
abbrev q_28 (r0 : Nat) (a1 : Int) (T : wq_T) (H : wq_H) : Option Value → wq_T → wq_H → Prop := fun r T' H' => T = T' ∧ WT T H' ∧ wfr [(35, 6), (35, 11), (35, 12), (35, 13), (35, 14), (35, 15), (35, 16), (35, 17)] T H H' ∧ none = r
set_option maxHeartbeats 4000000 in
theorem s_28 {kt : Nat → Option mc_E} {T : wq_T} {H : wq_H} {r0 : Nat} {a1 : Int} (hW : WT T H) (g0 : T.2.2.2 r0 = some 35) (i1 : (-9223372036854775808) ≤ a1 ∧ a1 ≤ 9223372036854775807) : wpc kt 1 28 [.ref r0, vL a1] T H (q_28 r0 a1 T H) := by
  refine wp_enter e28 (Nat.le_of_ble_eq_true rfl) rfl ?_
  have f0 : wfr [(35, 6), (35, 11), (35, 12), (35, 13), (35, 14), (35, 15), (35, 16), (35, 17)] T H H := wfr.rf
  show wp _ _ 28 0 [(0, .ref r0), (1, vL a1)] [] _ H _
  refine wp_of e28 c28_0 (rw_aload_n (pc' := 1) (v := .ref r0) rfl rfl rfl ?_)
  refine wp_of e28 c28_1 (rw_lload_n (pc' := 2) (z := a1) rfl rfl ?_)
  refine wp_of e28 c28_2 (xp_L (pc' := 5) lf_8_31 hW g0 sh_35 (by decide) (by decide) ty_35_6 rfl rfl (by omega) (by omega) ⟨by omega, by omega⟩ rfl (fun H8633 e8634 w8635 => ?_))
  have f8636 := f0.put' e8634 g0 rfl
  have k8637 : H8633 r0 6 = a1 := wq_u_s e8634
  refine wp_of e28 c28_5 (rw_aload_n (pc' := 6) (v := .ref r0) rfl rfl rfl ?_)
  refine wp_of e28 c28_6 (rw_iconst (pc' := 7) rfl ?_)
  refine wp_of e28 c28_7 (xp_I (pc' := 10) lf_8_35 w8635 g0 sh_35 (by decide) (by decide) ty_35_11 rfl rfl (by omega) (by omega) ⟨by omega, by omega⟩ rfl (fun H8638 e8639 w8640 => ?_))
  have f8641 := f8636.put' e8639 g0 rfl
  have k8642 : H8638 r0 11 = -1 := wq_u_s e8639
  refine wp_of e28 c28_10 (rw_aload_n (pc' := 11) (v := .ref r0) rfl rfl rfl ?_)
  refine wp_of e28 c28_11 (rw_iconst (pc' := 12) rfl ?_)
  refine wp_of e28 c28_12 (xp_I (pc' := 15) lf_8_39 w8640 g0 sh_35 (by decide) (by decide) ty_35_12 rfl rfl (by omega) (by omega) ⟨by omega, by omega⟩ rfl (fun H8643 e8644 w8645 => ?_))
  have f8646 := f8641.put' e8644 g0 rfl
  have k8647 : H8643 r0 12 = 0 := wq_u_s e8644
  refine wp_of e28 c28_15 (rw_aload_n (pc' := 16) (v := .ref r0) rfl rfl rfl ?_)
  refine wp_of e28 c28_16 (rw_iconst (pc' := 17) rfl ?_)
  refine wp_of e28 c28_17 (xp_Z (pc' := 20) lf_8_42 w8645 g0 sh_35 (by decide) (by decide) ty_35_13 rfl rfl (by omega) (by omega) rfl (fun H8648 e8649 w8650 => ?_))
  have f8651 := f8646.put' e8649 g0 rfl
  have k8652 : H8648 r0 13 = 0 := wq_u_s e8649
  refine wp_of e28 c28_20 (rw_aload_n (pc' := 21) (v := .ref r0) rfl rfl rfl ?_)
  refine wp_of e28 c28_21 (rw_iconst (pc' := 22) rfl ?_)
  refine wp_of e28 c28_22 (xp_I (pc' := 25) lf_8_46 w8650 g0 sh_35 (by decide) (by decide) ty_35_14 rfl rfl (by omega) (by omega) ⟨by omega, by omega⟩ rfl (fun H8653 e8654 w8655 => ?_))
  have f8656 := f8651.put' e8654 g0 rfl
  have k8657 : H8653 r0 14 = 0 := wq_u_s e8654
  refine wp_of e28 c28_25 (rw_aload_n (pc' := 26) (v := .ref r0) rfl rfl rfl ?_)
  refine wp_of e28 c28_26 (rw_iconst (pc' := 27) rfl ?_)
  refine wp_of e28 c28_27 (xp_I (pc' := 30) lf_8_49 w8655 g0 sh_35 (by decide) (by decide) ty_35_15 rfl rfl (by omega) (by omega) ⟨by omega, by omega⟩ rfl (fun H8658 e8659 w8660 => ?_))
  have f8661 := f8656.put' e8659 g0 rfl
  have k8662 : H8658 r0 15 = 0 := wq_u_s e8659
  refine wp_of e28 c28_30 (rw_aload_n (pc' := 31) (v := .ref r0) rfl rfl rfl ?_)
  refine wp_of e28 c28_31 (rw_iconst (pc' := 32) rfl ?_)
  refine wp_of e28 c28_32 (xp_I (pc' := 35) lf_8_52 w8660 g0 sh_35 (by decide) (by decide) ty_35_16 rfl rfl (by omega) (by omega) ⟨by omega, by omega⟩ rfl (fun H8663 e8664 w8665 => ?_))
  have f8666 := f8661.put' e8664 g0 rfl
  have k8667 : H8663 r0 16 = 0 := wq_u_s e8664
  refine wp_of e28 c28_35 (rw_aload_n (pc' := 36) (v := .ref r0) rfl rfl rfl ?_)
  refine wp_of e28 c28_36 (rw_iconst (pc' := 37) rfl ?_)
  refine wp_of e28 c28_37 (xp_I (pc' := 40) lf_8_55 w8665 g0 sh_35 (by decide) (by decide) ty_35_17 rfl rfl (by omega) (by omega) ⟨by omega, by omega⟩ rfl (fun H8668 e8669 w8670 => ?_))
  have f8671 := f8666.put' e8669 g0 rfl
  have k8672 : H8668 r0 17 = 0 := wq_u_s e8669
  exact wp_return e28 c28_40 rfl ⟨rfl, w8670, f8671, rfl⟩
/-! StrikeAwake$Reader.takesRange(IIII)Z -/
theorem e29 : wq_en 29 = some (1, 5, false, some FieldType.boolean) := rfl
theorem c29_0 : mc_cd 29 0 = some (.aload_n 0, 1) := by decide +kernel
theorem c29_1 : mc_cd 29 1 = some (.aload_n 0, 1) := by decide +kernel
theorem c29_2 : mc_cd 29 2 = some (.iconst 0, 1) := by decide +kernel
theorem c29_3 : mc_cd 29 3 = some (.iload_n 1, 1) := by decide +kernel
theorem c29_4 : mc_cd 29 4 = some (.invokevirtual 119, 3) := by decide +kernel
theorem c29_7 : mc_cd 29 7 = some (.putfield 158, 3) := by decide +kernel
theorem c29_10 : mc_cd 29 10 = some (.aload_n 0, 1) := by decide +kernel
theorem c29_11 : mc_cd 29 11 = some (.getfield 158, 3) := by decide +kernel
theorem c29_14 : mc_cd 29 14 = some (.ifCond .lt 13, 3) := by decide +kernel
theorem c29_17 : mc_cd 29 17 = some (.aload_n 0, 1) := by decide +kernel
theorem c29_18 : mc_cd 29 18 = some (.ldc_w 262, 3) := by decide +kernel
theorem c29_21 : mc_cd 29 21 = some (.invokevirtual 115, 3) := by decide +kernel
theorem c29_24 : mc_cd 29 24 = some (.ifCond .ne 5, 3) := by decide +kernel
theorem c29_27 : mc_cd 29 27 = some (.iconst 0, 1) := by decide +kernel
theorem c29_28 : mc_cd 29 28 = some (.ireturn, 1) := by decide +kernel
theorem c29_29 : mc_cd 29 29 = some (.aload_n 0, 1) := by decide +kernel
theorem c29_30 : mc_cd 29 30 = some (.aload_n 0, 1) := by decide +kernel
theorem c29_31 : mc_cd 29 31 = some (.aload_n 0, 1) := by decide +kernel
theorem c29_32 : mc_cd 29 32 = some (.getfield 158, 3) := by decide +kernel
theorem c29_35 : mc_cd 29 35 = some (.iload_n 2, 1) := by decide +kernel
theorem c29_36 : mc_cd 29 36 = some (.iadd, 1) := by decide +kernel
theorem c29_37 : mc_cd 29 37 = some (.aload_n 0, 1) := by decide +kernel
theorem c29_38 : mc_cd 29 38 = some (.getfield 158, 3) := by decide +kernel
theorem c29_41 : mc_cd 29 41 = some (.iload_n 3, 1) := by decide +kernel
theorem c29_42 : mc_cd 29 42 = some (.iadd, 1) := by decide +kernel
theorem c29_43 : mc_cd 29 43 = some (.iload 4, 2) := by decide +kernel
theorem c29_45 : mc_cd 29 45 = some (.invokestatic 263, 3) := by decide +kernel
theorem c29_48 : mc_cd 29 48 = some (.invokevirtual 119, 3) := by decide +kernel
theorem c29_51 : mc_cd 29 51 = some (.putfield 164, 3) := by decide +kernel
theorem c29_54 : mc_cd 29 54 = some (.aload_n 0, 1) := by decide +kernel
theorem c29_55 : mc_cd 29 55 = some (.getfield 164, 3) := by decide +kernel
theorem c29_58 : mc_cd 29 58 = some (.ifCond .lt 7, 3) := by decide +kernel
theorem c29_61 : mc_cd 29 61 = some (.iconst 1, 1) := by decide +kernel
theorem c29_62 : mc_cd 29 62 = some (.goto 4, 3) := by decide +kernel
theorem c29_65 : mc_cd 29 65 = some (.iconst 0, 1) := by decide +kernel
theorem c29_66 : mc_cd 29 66 = some (.ireturn, 1) := by decide +kernel
abbrev q_29 (r0 : Nat) (a1 : Int) (a2 : Int) (a3 : Int) (a4 : Int) (tk : Nat) (rb : Nat) (T : wq_T) (H : wq_H) : Option Value → wq_T → wq_H → Prop := fun r T' H' => T = T' ∧ WT T H' ∧ wfr [(3, 1), (3, 2), (3, 3), (3, 4), (4, 2), (4, 3), (4, 4), (4, 5), (4, 6)] T H H' ∧ ∃ z : Int, some (vI z) = r ∧ (0 ≤ z ∧ z ≤ 1)
set_option maxHeartbeats 4000000 in
theorem s_29 {kt : Nat → Option mc_E} {T : wq_T} {H : wq_H} {r0 : Nat} {a1 : Int} {a2 : Int} {a3 : Int} {a4 : Int} {tk : Nat} {rb : Nat} (hW : WT T H) (g0 : T.2.2.2 r0 = some 3) (i1 : 0 ≤ a1 ∧ a1 ≤ 23) (i2 : 0 ≤ a2 ∧ a2 ≤ 1) (i3 : 0 ≤ a3 ∧ a3 ≤ 24) (i4 : 0 ≤ a4 ∧ a4 ≤ 24) (qtk : H r0 0 = (tk : Int)) (gtk : T.2.2.2 tk = some 4) (qrb : H tk 0 = (rb : Int)) (grb : T.2.2.2 rb = some 2) : wpc kt 3 29 [.ref r0, vI a1, vI a2, vI a3, vI a4] T H (q_29 r0 a1 a2 a3 a4 tk rb T H) := by
  refine wp_enter e29 (Nat.le_of_ble_eq_true rfl) rfl ?_
  have f0 : wfr [(3, 1), (3, 2), (3, 3), (3, 4), (4, 2), (4, 3), (4, 4), (4, 5), (4, 6)] T H H := wfr.rf
  show wp _ _ 29 0 [(0, .ref r0), (1, vI a1), (2, vI a2), (3, vI a3), (4, vI a4)] [] _ H _
  refine wp_of e29 c29_0 (rw_aload_n (pc' := 1) (v := .ref r0) rfl rfl rfl ?_)
  refine wp_of e29 c29_1 (rw_aload_n (pc' := 2) (v := .ref r0) rfl rfl rfl ?_)
  refine wp_of e29 c29_2 (rw_iconst (pc' := 3) rfl ?_)
  refine wp_of e29 c29_3 (rw_iload_n (pc' := 4) (z := a1) rfl rfl ?_)
  refine wp_of e29 c29_4 (xc_V (pc' := 7) (r := r0) (as := [vI 0, vI a1]) (st := [.ref r0]) (lm_1_119) rfl rfl (Nat.le_of_ble_eq_true rfl) hW g0 sh_3 (by decide) rfl (by decide) (s_24 hW g0 ⟨by omega, by omega⟩ ⟨by omega, by omega⟩ qtk gtk qrb grb) (fun R8740 T8741 H8742 p8743 => ?_))
  obtain ⟨e8744, w8746, f8747, z8749, e8745, b8750, p8748⟩ := p8743
  subst e8744
  subst e8745
  have f8751 := f0.tr f8747 rfl
  show wp _ _ 29 7 [(0, .ref r0), (1, vI a1), (2, vI a2), (3, vI a3), (4, vI a4)] [vI z8749, .ref r0] _ H8742 _
  refine wp_of e29 c29_7 (xp_I (pc' := 10) lf_1_158 w8746 g0 sh_3 (by decide) (by decide) ty_3_1 rfl rfl (by omega) (by omega) ⟨by omega, by omega⟩ rfl (fun H8752 e8753 w8754 => ?_))
  have f8755 := f8751.put' e8753 g0 rfl
  have k8756 : H8752 r0 1 = z8749 := wq_u_s e8753
  refine wp_of e29 c29_10 (rw_aload_n (pc' := 11) (v := .ref r0) rfl rfl rfl ?_)
  refine wp_of e29 c29_11 (xg_I (pc' := 14) lf_1_158 w8754 g0 sh_3 (by decide) (by decide) ty_3_1 rfl rfl (fun b8757 b8758 => ?_))
  refine wp_of e29 c29_14 (rw_if_lt (p1 := 27) (p2 := 17) (by decide) rfl ⟨by omega, by omega⟩ (fun c8759 => ?_) (fun c8759 => ?_))
  · refine wp_of e29 c29_27 (rw_iconst (pc' := 28) rfl ?_)
    exact wp_zreturn e29 c29_28 rfl (by omega) ⟨rfl, w8754, f8755, 0, rfl, ⟨by omega, by omega⟩⟩
  · refine wp_of e29 c29_17 (rw_aload_n (pc' := 18) (v := .ref r0) rfl rfl rfl ?_)
    refine wp_of e29 c29_18 (rw_ldc_wS (pc' := 21) (k := 68) rfl rfl rfl rfl ?_)
    have k8760 : H8752 r0 0 = H r0 0 := ((wq_u_j e8753 rfl).trans (f8747 r0 0 _ g0 rfl))
    have q8761 : H8752 r0 0 = (tk : Int) := k8760.trans qtk
    have k8762 : H8752 tk 0 = H tk 0 := ((wq_u_t e8753 g0 gtk rfl 0).trans (f8747 tk 0 _ gtk rfl))
    have q8763 : H8752 tk 0 = (rb : Int) := k8762.trans qrb
    refine wp_of e29 c29_21 (xc_V (pc' := 24) (r := r0) (as := [.ref 68]) (st := []) (lm_1_115) rfl rfl (Nat.le_of_ble_eq_true rfl) w8754 g0 sh_3 (by decide) rfl (by decide) (s_23 w8754 g0 rfl q8761 gtk q8763 grb) (fun R8764 T8765 H8766 p8767 => ?_))
    obtain ⟨e8768, w8770, f8771, z8772, e8769, b8773⟩ := p8767
    subst e8768
    subst e8769
    have f8774 := f8755.tr f8771 rfl
    show wp _ _ 29 24 [(0, .ref r0), (1, vI a1), (2, vI a2), (3, vI a3), (4, vI a4)] [vI z8772] _ H8766 _
    refine wp_of e29 c29_24 (rw_if_ne (p1 := 29) (p2 := 27) (by decide) rfl ⟨by omega, by omega⟩ (fun c8775 => ?_) (fun c8775 => ?_))
    · refine wp_of e29 c29_29 (rw_aload_n (pc' := 30) (v := .ref r0) rfl rfl rfl ?_)
      refine wp_of e29 c29_30 (rw_aload_n (pc' := 31) (v := .ref r0) rfl rfl rfl ?_)
      refine wp_of e29 c29_31 (rw_aload_n (pc' := 32) (v := .ref r0) rfl rfl rfl ?_)
      have k8776 : H8766 r0 1 = H8752 r0 1 := (f8771 r0 1 _ g0 rfl)
      refine wp_of e29 c29_32 (xg_I (pc' := 35) lf_1_158 w8770 g0 sh_3 (by decide) (by decide) ty_3_1 rfl rfl (fun b8777 b8778 => ?_))
      refine wp_of e29 c29_35 (rw_iload_n (pc' := 36) (z := a2) rfl rfl ?_)
      refine wp_of e29 c29_36 (rw_iadd (pc' := 37) rfl ?_)
      refine wp_of e29 c29_37 (rw_aload_n (pc' := 38) (v := .ref r0) rfl rfl rfl ?_)
      refine wp_of e29 c29_38 (xg_I (pc' := 41) lf_1_158 w8770 g0 sh_3 (by decide) (by decide) ty_3_1 rfl rfl (fun b8779 b8780 => ?_))
      refine wp_of e29 c29_41 (rw_iload_n (pc' := 42) (z := a3) rfl rfl ?_)
      refine wp_of e29 c29_42 (rw_iadd (pc' := 43) rfl ?_)
      refine wp_of e29 c29_43 (rw_iload (pc' := 45) (z := a4) rfl rfl ?_)
      refine wp_of e29 c29_45 (rw_math2 (pc' := 48) (z := min ((H8766 r0 1) + a3) a4) rfl rfl ⟨by omega, by omega⟩ ⟨by omega, by omega⟩ (Or.inl ⟨rfl, rfl⟩) (Nat.le_of_ble_eq_true rfl) rfl ?_)
      obtain ⟨v8781, e8782⟩ : ∃ x : Int, x = min ((H8766 r0 1) + a3) a4 := ⟨_, rfl⟩
      rw [← e8782]
      have b8783 : v8781 = ((H8766 r0 1) + a3) ∨ v8781 = a4 := by
        rw [e8782]
        omega
      have b8784 : v8781 ≤ ((H8766 r0 1) + a3) ∧ v8781 ≤ a4 := by
        rw [e8782]
        omega
      have k8785 : H8766 r0 0 = H8752 r0 0 := (f8771 r0 0 _ g0 rfl)
      have q8786 : H8766 r0 0 = (tk : Int) := k8785.trans q8761
      have k8787 : H8766 tk 0 = H8752 tk 0 := (f8771 tk 0 _ gtk rfl)
      have q8788 : H8766 tk 0 = (rb : Int) := k8787.trans q8763
      refine wp_of e29 c29_48 (xc_V (pc' := 51) (r := r0) (as := [vI ((H8766 r0 1) + a2), vI v8781]) (st := [.ref r0]) (lm_1_119) rfl rfl (Nat.le_of_ble_eq_true rfl) w8770 g0 sh_3 (by decide) rfl (by decide) (s_24 w8770 g0 ⟨by omega, by omega⟩ ⟨by omega, by omega⟩ q8786 gtk q8788 grb) (fun R8789 T8790 H8791 p8792 => ?_))
      obtain ⟨e8793, w8795, f8796, z8798, e8794, b8799, p8797⟩ := p8792
      subst e8793
      subst e8794
      have f8800 := f8774.tr f8796 rfl
      show wp _ _ 29 51 [(0, .ref r0), (1, vI a1), (2, vI a2), (3, vI a3), (4, vI a4)] [vI z8798, .ref r0] _ H8791 _
      refine wp_of e29 c29_51 (xp_I (pc' := 54) lf_1_164 w8795 g0 sh_3 (by decide) (by decide) ty_3_2 rfl rfl (by omega) (by omega) ⟨by omega, by omega⟩ rfl (fun H8801 e8802 w8803 => ?_))
      have f8804 := f8800.put' e8802 g0 rfl
      have k8805 : H8801 r0 2 = z8798 := wq_u_s e8802
      refine wp_of e29 c29_54 (rw_aload_n (pc' := 55) (v := .ref r0) rfl rfl rfl ?_)
      refine wp_of e29 c29_55 (xg_I (pc' := 58) lf_1_164 w8803 g0 sh_3 (by decide) (by decide) ty_3_2 rfl rfl (fun b8806 b8807 => ?_))
      refine wp_of e29 c29_58 (rw_if_lt (p1 := 65) (p2 := 61) (by decide) rfl ⟨by omega, by omega⟩ (fun c8808 => ?_) (fun c8808 => ?_))
      · refine wp_of e29 c29_65 (rw_iconst (pc' := 66) rfl ?_)
        exact wp_zreturn e29 c29_66 rfl (by omega) ⟨rfl, w8803, f8804, 0, rfl, ⟨by omega, by omega⟩⟩
      · refine wp_of e29 c29_61 (rw_iconst (pc' := 62) rfl ?_)
        refine wp_of e29 c29_62 (rw_goto (p1 := 66) (by decide) ?_)
        exact wp_zreturn e29 c29_66 rfl (by omega) ⟨rfl, w8803, f8804, 1, rfl, ⟨by omega, by omega⟩⟩
    · refine wp_of e29 c29_27 (rw_iconst (pc' := 28) rfl ?_)
      exact wp_zreturn e29 c29_28 rfl (by omega) ⟨rfl, w8770, f8774, 0, rfl, ⟨by omega, by omega⟩⟩
/-! StrikeAwake$Reader.readsPerson(LStrikeAwake$Parish;)Z -/
theorem e25 : wq_en 25 = some (1, 3, false, some FieldType.boolean) := rfl
theorem c25_0 : mc_cd 25 0 = some (.aload_n 0, 1) := by decide +kernel
theorem c25_1 : mc_cd 25 1 = some (.invokevirtual 131, 3) := by decide +kernel
theorem c25_4 : mc_cd 25 4 = some (.ifCond .ne 9, 3) := by decide +kernel
theorem c25_7 : mc_cd 25 7 = some (.aload_n 0, 1) := by decide +kernel
theorem c25_8 : mc_cd 25 8 = some (.iconst 1, 1) := by decide +kernel
theorem c25_9 : mc_cd 25 9 = some (.invokevirtual 47, 3) := by decide +kernel
theorem c25_12 : mc_cd 25 12 = some (.ireturn, 1) := by decide +kernel
theorem c25_13 : mc_cd 25 13 = some (.aload_n 1, 1) := by decide +kernel
theorem c25_14 : mc_cd 25 14 = some (.aload_n 0, 1) := by decide +kernel
theorem c25_15 : mc_cd 25 15 = some (.getfield 12, 3) := by decide +kernel
theorem c25_18 : mc_cd 25 18 = some (.getfield 135, 3) := by decide +kernel
theorem c25_21 : mc_cd 25 21 = some (.invokevirtual 139, 3) := by decide +kernel
theorem c25_24 : mc_cd 25 24 = some (.ifCond .lt 9, 3) := by decide +kernel
theorem c25_27 : mc_cd 25 27 = some (.aload_n 0, 1) := by decide +kernel
theorem c25_28 : mc_cd 25 28 = some (.iconst 3, 1) := by decide +kernel
theorem c25_29 : mc_cd 25 29 = some (.invokevirtual 47, 3) := by decide +kernel
theorem c25_32 : mc_cd 25 32 = some (.ireturn, 1) := by decide +kernel
theorem c25_33 : mc_cd 25 33 = some (.aload_n 1, 1) := by decide +kernel
theorem c25_34 : mc_cd 25 34 = some (.getfield 143, 3) := by decide +kernel
theorem c25_37 : mc_cd 25 37 = some (.aload_n 1, 1) := by decide +kernel
theorem c25_38 : mc_cd 25 38 = some (.getfield 44, 3) := by decide +kernel
theorem c25_41 : mc_cd 25 41 = some (.aaload, 1) := by decide +kernel
theorem c25_42 : mc_cd 25 42 = some (.astore_n 2, 1) := by decide +kernel
theorem c25_43 : mc_cd 25 43 = some (.aload_n 2, 1) := by decide +kernel
theorem c25_44 : mc_cd 25 44 = some (.aload_n 0, 1) := by decide +kernel
theorem c25_45 : mc_cd 25 45 = some (.getfield 12, 3) := by decide +kernel
theorem c25_48 : mc_cd 25 48 = some (.getfield 135, 3) := by decide +kernel
theorem c25_51 : mc_cd 25 51 = some (.invokevirtual 147, 3) := by decide +kernel
theorem c25_54 : mc_cd 25 54 = some (.aload_n 0, 1) := by decide +kernel
theorem c25_55 : mc_cd 25 55 = some (.getfield 12, 3) := by decide +kernel
theorem c25_58 : mc_cd 25 58 = some (.invokevirtual 74, 3) := by decide +kernel
theorem c25_61 : mc_cd 25 61 = some (.aload_n 0, 1) := by decide +kernel
theorem c25_62 : mc_cd 25 62 = some (.ldc 152, 2) := by decide +kernel
theorem c25_64 : mc_cd 25 64 = some (.invokevirtual 115, 3) := by decide +kernel
theorem c25_67 : mc_cd 25 67 = some (.ifCond .eq 17, 3) := by decide +kernel
theorem c25_70 : mc_cd 25 70 = some (.aload_n 0, 1) := by decide +kernel
theorem c25_71 : mc_cd 25 71 = some (.bipush 23, 2) := by decide +kernel
theorem c25_73 : mc_cd 25 73 = some (.iconst 0, 1) := by decide +kernel
theorem c25_74 : mc_cd 25 74 = some (.bipush 7, 2) := by decide +kernel
theorem c25_76 : mc_cd 25 76 = some (.bipush 23, 2) := by decide +kernel
theorem c25_78 : mc_cd 25 78 = some (.invokevirtual 154, 3) := by decide +kernel
theorem c25_81 : mc_cd 25 81 = some (.ifCond .ne 5, 3) := by decide +kernel
theorem c25_84 : mc_cd 25 84 = some (.iconst 0, 1) := by decide +kernel
theorem c25_85 : mc_cd 25 85 = some (.ireturn, 1) := by decide +kernel
theorem c25_86 : mc_cd 25 86 = some (.aload_n 2, 1) := by decide +kernel
theorem c25_87 : mc_cd 25 87 = some (.aload_n 0, 1) := by decide +kernel
theorem c25_88 : mc_cd 25 88 = some (.getfield 158, 3) := by decide +kernel
theorem c25_91 : mc_cd 25 91 = some (.putfield 161, 3) := by decide +kernel
theorem c25_94 : mc_cd 25 94 = some (.aload_n 2, 1) := by decide +kernel
theorem c25_95 : mc_cd 25 95 = some (.aload_n 0, 1) := by decide +kernel
theorem c25_96 : mc_cd 25 96 = some (.getfield 164, 3) := by decide +kernel
theorem c25_99 : mc_cd 25 99 = some (.putfield 167, 3) := by decide +kernel
theorem c25_102 : mc_cd 25 102 = some (.aload_n 0, 1) := by decide +kernel
theorem c25_103 : mc_cd 25 103 = some (.ldc 170, 2) := by decide +kernel
theorem c25_105 : mc_cd 25 105 = some (.invokevirtual 115, 3) := by decide +kernel
theorem c25_108 : mc_cd 25 108 = some (.ifCond .eq 16, 3) := by decide +kernel
theorem c25_111 : mc_cd 25 111 = some (.aload_n 0, 1) := by decide +kernel
theorem c25_112 : mc_cd 25 112 = some (.bipush 12, 2) := by decide +kernel
theorem c25_114 : mc_cd 25 114 = some (.iconst 0, 1) := by decide +kernel
theorem c25_115 : mc_cd 25 115 = some (.iconst 4, 1) := by decide +kernel
theorem c25_116 : mc_cd 25 116 = some (.bipush 12, 2) := by decide +kernel
theorem c25_118 : mc_cd 25 118 = some (.invokevirtual 154, 3) := by decide +kernel
theorem c25_121 : mc_cd 25 121 = some (.ifCond .ne 5, 3) := by decide +kernel
theorem c25_124 : mc_cd 25 124 = some (.iconst 0, 1) := by decide +kernel
theorem c25_125 : mc_cd 25 125 = some (.ireturn, 1) := by decide +kernel
theorem c25_126 : mc_cd 25 126 = some (.aload_n 2, 1) := by decide +kernel
theorem c25_127 : mc_cd 25 127 = some (.aload_n 0, 1) := by decide +kernel
theorem c25_128 : mc_cd 25 128 = some (.getfield 158, 3) := by decide +kernel
theorem c25_131 : mc_cd 25 131 = some (.putfield 172, 3) := by decide +kernel
theorem c25_134 : mc_cd 25 134 = some (.aload_n 2, 1) := by decide +kernel
theorem c25_135 : mc_cd 25 135 = some (.aload_n 0, 1) := by decide +kernel
theorem c25_136 : mc_cd 25 136 = some (.getfield 164, 3) := by decide +kernel
theorem c25_139 : mc_cd 25 139 = some (.putfield 175, 3) := by decide +kernel
theorem c25_142 : mc_cd 25 142 = some (.iconst 1, 1) := by decide +kernel
theorem c25_143 : mc_cd 25 143 = some (.ireturn, 1) := by decide +kernel
abbrev q_25 (r0 : Nat) (r1 : Nat) (tk : Nat) (rb : Nat) (T : wq_T) (H : wq_H) : Option Value → wq_T → wq_H → Prop := fun r T' H' => T = T' ∧ WT T H' ∧ wfr [(35, 6), (35, 7), (35, 8), (35, 9), (35, 10), (35, 11), (35, 12), (35, 13), (35, 14), (35, 15), (35, 16), (35, 17), (3, 1), (3, 2), (3, 3), (3, 4), (4, 2), (4, 3), (4, 4), (4, 5), (4, 6)] T H H' ∧ ∃ z : Int, some (vI z) = r ∧ (0 ≤ z ∧ z ≤ 1)
set_option maxHeartbeats 4000000 in
theorem s_25 {kt : Nat → Option mc_E} {T : wq_T} {H : wq_H} {r0 : Nat} {r1 : Nat} {tk : Nat} {rb : Nat} (hW : WT T H) (g0 : T.2.2.2 r0 = some 3) (g1 : T.2.2.2 r1 = some 27) (qtk : H r0 0 = (tk : Int)) (gtk : T.2.2.2 tk = some 4) (qrb : H tk 0 = (rb : Int)) (grb : T.2.2.2 rb = some 2) (p0 : H r1 10 ≤ 5) : wpc kt 4 25 [.ref r0, .ref r1] T H (q_25 r0 r1 tk rb T H) := by
  refine wp_enter e25 (Nat.le_of_ble_eq_true rfl) rfl ?_
  have f0 : wfr [(35, 6), (35, 7), (35, 8), (35, 9), (35, 10), (35, 11), (35, 12), (35, 13), (35, 14), (35, 15), (35, 16), (35, 17), (3, 1), (3, 2), (3, 3), (3, 4), (4, 2), (4, 3), (4, 4), (4, 5), (4, 6)] T H H := wfr.rf
  show wp _ _ 25 0 [(0, .ref r0), (1, .ref r1)] [] _ H _
  refine wp_of e25 c25_0 (rw_aload_n (pc' := 1) (v := .ref r0) rfl rfl rfl ?_)
  refine wp_of e25 c25_1 (xc_V (pc' := 4) (r := r0) (as := []) (st := []) (lm_1_131) rfl rfl (Nat.le_of_ble_eq_true rfl) hW g0 sh_3 (by decide) rfl (by decide) (s_26 hW g0) (fun R8977 T8978 H8979 p8980 => ?_))
  obtain ⟨e8981, e8983, z8984, e8982, b8985⟩ := p8980
  subst e8981
  subst e8982
  subst e8983
  show wp _ _ 25 4 [(0, .ref r0), (1, .ref r1)] [vI z8984] _ H _
  refine wp_of e25 c25_4 (rw_if_ne (p1 := 13) (p2 := 7) (by decide) rfl ⟨by omega, by omega⟩ (fun c8986 => ?_) (fun c8986 => ?_))
  · refine wp_of e25 c25_13 (rw_aload_n (pc' := 14) (v := .ref r1) rfl rfl rfl ?_)
    refine wp_of e25 c25_14 (rw_aload_n (pc' := 15) (v := .ref r0) rfl rfl rfl ?_)
    refine wp_of e25 c25_15 (xg_K (pc' := 18) lf_1_12 hW g0 sh_3 (by decide) (by decide) rfl qtk rfl ?_)
    refine wp_of e25 c25_18 (xg_L (pc' := 21) lf_1_135 hW gtk sh_4 (by decide) (by decide) ty_4_6 rfl rfl (fun b8987 b8988 => ?_))
    refine wp_of e25 c25_21 (xc_V (pc' := 24) (r := r1) (as := [vL (H tk 6)]) (st := []) (lm_1_139) rfl rfl (Nat.le_of_ble_eq_true rfl) hW g1 sh_27 (by decide) rfl (by decide) (s_27 hW g1 ⟨by omega, by omega⟩) (fun R8989 T8990 H8991 p8992 => ?_))
    obtain ⟨e8993, e8995, z8996, e8994, b8997⟩ := p8992
    subst e8993
    subst e8994
    subst e8995
    show wp _ _ 25 24 [(0, .ref r0), (1, .ref r1)] [vI z8996] _ H _
    refine wp_of e25 c25_24 (rw_if_lt (p1 := 33) (p2 := 27) (by decide) rfl ⟨by omega, by omega⟩ (fun c8998 => ?_) (fun c8998 => ?_))
    · refine wp_of e25 c25_33 (rw_aload_n (pc' := 34) (v := .ref r1) rfl rfl rfl ?_)
      refine wp_of e25 c25_34 (xg_R (pc' := 37) lf_1_143 hW g1 sh_27 (by decide) (by decide) ty_27_0 rfl rfl (fun r8999 q9000 g9001 => ?_))
      refine wp_of e25 c25_37 (rw_aload_n (pc' := 38) (v := .ref r1) rfl rfl rfl ?_)
      refine wp_of e25 c25_38 (xg_I (pc' := 41) lf_1_44 hW g1 sh_27 (by decide) (by decide) ty_27_10 rfl rfl (fun b9002 b9003 => ?_))
      refine wp_of e25 c25_41 (xa_R (pc' := 42) (by decide) hW g9001 sh_28 (by decide) (ty_28 _) (by omega) (by omega) rfl (fun r9004 q9005 g9006 => ?_))
      refine wp_of e25 c25_42 (rw_astore_n (pc' := 43) (v := .ref r9004) (L' := [(2, .ref r9004), (0, .ref r0), (1, .ref r1)]) rfl rfl rfl rfl ?_)
      refine wp_of e25 c25_43 (rw_aload_n (pc' := 44) (v := .ref r9004) rfl rfl rfl ?_)
      refine wp_of e25 c25_44 (rw_aload_n (pc' := 45) (v := .ref r0) rfl rfl rfl ?_)
      refine wp_of e25 c25_45 (xg_K (pc' := 48) lf_1_12 hW g0 sh_3 (by decide) (by decide) rfl qtk rfl ?_)
      refine wp_of e25 c25_48 (xg_L (pc' := 51) lf_1_135 hW gtk sh_4 (by decide) (by decide) ty_4_6 rfl rfl (fun b9007 b9008 => ?_))
      refine wp_of e25 c25_51 (xc_V (pc' := 54) (r := r9004) (as := [vL (H tk 6)]) (st := []) (lm_1_147) rfl rfl (Nat.le_of_ble_eq_true rfl) hW g9006 sh_35 (by decide) rfl (by decide) (s_28 hW g9006 ⟨by omega, by omega⟩) (fun R9009 T9010 H9011 p9012 => ?_))
      obtain ⟨e9013, w9015, f9016, e9014⟩ := p9012
      subst e9013
      subst e9014
      have f9017 := f0.tr f9016 rfl
      show wp _ _ 25 54 [(2, .ref r9004), (0, .ref r0), (1, .ref r1)] [] _ H9011 _
      refine wp_of e25 c25_54 (rw_aload_n (pc' := 55) (v := .ref r0) rfl rfl rfl ?_)
      have k9018 : H9011 r0 0 = H r0 0 := (f9016 r0 0 _ g0 rfl)
      have q9019 : H9011 r0 0 = (tk : Int) := k9018.trans qtk
      refine wp_of e25 c25_55 (xg_K (pc' := 58) lf_1_12 w9015 g0 sh_3 (by decide) (by decide) rfl q9019 rfl ?_)
      have k9020 : H9011 tk 0 = H tk 0 := (f9016 tk 0 _ gtk rfl)
      have q9021 : H9011 tk 0 = (rb : Int) := k9020.trans qrb
      refine wp_of e25 c25_58 (xc_V (pc' := 61) (r := tk) (as := []) (st := []) (lm_1_74) rfl rfl (Nat.le_of_ble_eq_true rfl) w9015 gtk sh_4 (by decide) rfl (by decide) (s_16 w9015 gtk q9021 grb) (fun R9022 T9023 H9024 p9025 => ?_))
      obtain ⟨e9026, w9028, f9029, e9027⟩ := p9025
      subst e9026
      subst e9027
      have f9030 := f9017.tr f9029 rfl
      show wp _ _ 25 61 [(2, .ref r9004), (0, .ref r0), (1, .ref r1)] [] _ H9024 _
      refine wp_of e25 c25_61 (rw_aload_n (pc' := 62) (v := .ref r0) rfl rfl rfl ?_)
      refine wp_of e25 c25_62 (rw_ldcS (pc' := 64) (k := 67) rfl rfl rfl rfl ?_)
      have k9031 : H9024 r0 0 = H9011 r0 0 := (f9029 r0 0 _ g0 rfl)
      have q9032 : H9024 r0 0 = (tk : Int) := k9031.trans q9019
      have k9033 : H9024 tk 0 = H9011 tk 0 := (f9029 tk 0 _ gtk rfl)
      have q9034 : H9024 tk 0 = (rb : Int) := k9033.trans q9021
      refine wp_of e25 c25_64 (xc_V (pc' := 67) (r := r0) (as := [.ref 67]) (st := []) (lm_1_115) rfl rfl (Nat.le_of_ble_eq_true rfl) w9028 g0 sh_3 (by decide) rfl (by decide) (s_23 w9028 g0 rfl q9032 gtk q9034 grb) (fun R9035 T9036 H9037 p9038 => ?_))
      obtain ⟨e9039, w9041, f9042, z9043, e9040, b9044⟩ := p9038
      subst e9039
      subst e9040
      have f9045 := f9030.tr f9042 rfl
      show wp _ _ 25 67 [(2, .ref r9004), (0, .ref r0), (1, .ref r1)] [vI z9043] _ H9037 _
      refine wp_of e25 c25_67 (rw_if_eq (p1 := 84) (p2 := 70) (by decide) rfl ⟨by omega, by omega⟩ (fun c9046 => ?_) (fun c9046 => ?_))
      · refine wp_of e25 c25_84 (rw_iconst (pc' := 85) rfl ?_)
        exact wp_zreturn e25 c25_85 rfl (by omega) ⟨rfl, w9041, f9045, 0, rfl, ⟨by omega, by omega⟩⟩
      · refine wp_of e25 c25_70 (rw_aload_n (pc' := 71) (v := .ref r0) rfl rfl rfl ?_)
        refine wp_of e25 c25_71 (rw_bipush (pc' := 73) (z := 23) rfl (by decide) ?_)
        refine wp_of e25 c25_73 (rw_iconst (pc' := 74) rfl ?_)
        refine wp_of e25 c25_74 (rw_bipush (pc' := 76) (z := 7) rfl (by decide) ?_)
        refine wp_of e25 c25_76 (rw_bipush (pc' := 78) (z := 23) rfl (by decide) ?_)
        have k9047 : H9037 r0 0 = H9024 r0 0 := (f9042 r0 0 _ g0 rfl)
        have q9048 : H9037 r0 0 = (tk : Int) := k9047.trans q9032
        have k9049 : H9037 tk 0 = H9024 tk 0 := (f9042 tk 0 _ gtk rfl)
        have q9050 : H9037 tk 0 = (rb : Int) := k9049.trans q9034
        refine wp_of e25 c25_78 (xc_V (pc' := 81) (r := r0) (as := [vI 23, vI 0, vI 7, vI 23]) (st := []) (lm_1_154) rfl rfl (Nat.le_of_ble_eq_true rfl) w9041 g0 sh_3 (by decide) rfl (by decide) (s_29 w9041 g0 ⟨by omega, by omega⟩ ⟨by omega, by omega⟩ ⟨by omega, by omega⟩ ⟨by omega, by omega⟩ q9048 gtk q9050 grb) (fun R9051 T9052 H9053 p9054 => ?_))
        obtain ⟨e9055, w9057, f9058, z9059, e9056, b9060⟩ := p9054
        subst e9055
        subst e9056
        have f9061 := f9045.tr f9058 rfl
        show wp _ _ 25 81 [(2, .ref r9004), (0, .ref r0), (1, .ref r1)] [vI z9059] _ H9053 _
        refine wp_of e25 c25_81 (rw_if_ne (p1 := 86) (p2 := 84) (by decide) rfl ⟨by omega, by omega⟩ (fun c9062 => ?_) (fun c9062 => ?_))
        · refine wp_of e25 c25_86 (rw_aload_n (pc' := 87) (v := .ref r9004) rfl rfl rfl ?_)
          refine wp_of e25 c25_87 (rw_aload_n (pc' := 88) (v := .ref r0) rfl rfl rfl ?_)
          refine wp_of e25 c25_88 (xg_I (pc' := 91) lf_1_158 w9057 g0 sh_3 (by decide) (by decide) ty_3_1 rfl rfl (fun b9063 b9064 => ?_))
          refine wp_of e25 c25_91 (xp_I (pc' := 94) lf_1_161 w9057 g9006 sh_35 (by decide) (by decide) ty_35_7 rfl rfl (by omega) (by omega) ⟨by omega, by omega⟩ rfl (fun H9065 e9066 w9067 => ?_))
          have f9068 := f9061.put' e9066 g9006 rfl
          have k9069 : H9065 r9004 7 = H9053 r0 1 := wq_u_s e9066
          refine wp_of e25 c25_94 (rw_aload_n (pc' := 95) (v := .ref r9004) rfl rfl rfl ?_)
          refine wp_of e25 c25_95 (rw_aload_n (pc' := 96) (v := .ref r0) rfl rfl rfl ?_)
          refine wp_of e25 c25_96 (xg_I (pc' := 99) lf_1_164 w9067 g0 sh_3 (by decide) (by decide) ty_3_2 rfl rfl (fun b9070 b9071 => ?_))
          refine wp_of e25 c25_99 (xp_I (pc' := 102) lf_1_167 w9067 g9006 sh_35 (by decide) (by decide) ty_35_8 rfl rfl (by omega) (by omega) ⟨by omega, by omega⟩ rfl (fun H9072 e9073 w9074 => ?_))
          have f9075 := f9068.put' e9073 g9006 rfl
          have k9076 : H9072 r9004 8 = H9065 r0 2 := wq_u_s e9073
          refine wp_of e25 c25_102 (rw_aload_n (pc' := 103) (v := .ref r0) rfl rfl rfl ?_)
          refine wp_of e25 c25_103 (rw_ldcS (pc' := 105) (k := 69) rfl rfl rfl rfl ?_)
          have k9077 : H9072 r0 0 = H9037 r0 0 := ((wq_u_t e9073 g9006 g0 rfl 0).trans ((wq_u_t e9066 g9006 g0 rfl 0).trans (f9058 r0 0 _ g0 rfl)))
          have q9078 : H9072 r0 0 = (tk : Int) := k9077.trans q9048
          have k9079 : H9072 tk 0 = H9037 tk 0 := ((wq_u_t e9073 g9006 gtk rfl 0).trans ((wq_u_t e9066 g9006 gtk rfl 0).trans (f9058 tk 0 _ gtk rfl)))
          have q9080 : H9072 tk 0 = (rb : Int) := k9079.trans q9050
          refine wp_of e25 c25_105 (xc_V (pc' := 108) (r := r0) (as := [.ref 69]) (st := []) (lm_1_115) rfl rfl (Nat.le_of_ble_eq_true rfl) w9074 g0 sh_3 (by decide) rfl (by decide) (s_23 w9074 g0 rfl q9078 gtk q9080 grb) (fun R9081 T9082 H9083 p9084 => ?_))
          obtain ⟨e9085, w9087, f9088, z9089, e9086, b9090⟩ := p9084
          subst e9085
          subst e9086
          have f9091 := f9075.tr f9088 rfl
          show wp _ _ 25 108 [(2, .ref r9004), (0, .ref r0), (1, .ref r1)] [vI z9089] _ H9083 _
          refine wp_of e25 c25_108 (rw_if_eq (p1 := 124) (p2 := 111) (by decide) rfl ⟨by omega, by omega⟩ (fun c9092 => ?_) (fun c9092 => ?_))
          · refine wp_of e25 c25_124 (rw_iconst (pc' := 125) rfl ?_)
            exact wp_zreturn e25 c25_125 rfl (by omega) ⟨rfl, w9087, f9091, 0, rfl, ⟨by omega, by omega⟩⟩
          · refine wp_of e25 c25_111 (rw_aload_n (pc' := 112) (v := .ref r0) rfl rfl rfl ?_)
            refine wp_of e25 c25_112 (rw_bipush (pc' := 114) (z := 12) rfl (by decide) ?_)
            refine wp_of e25 c25_114 (rw_iconst (pc' := 115) rfl ?_)
            refine wp_of e25 c25_115 (rw_iconst (pc' := 116) rfl ?_)
            refine wp_of e25 c25_116 (rw_bipush (pc' := 118) (z := 12) rfl (by decide) ?_)
            have k9093 : H9083 r0 0 = H9072 r0 0 := (f9088 r0 0 _ g0 rfl)
            have q9094 : H9083 r0 0 = (tk : Int) := k9093.trans q9078
            have k9095 : H9083 tk 0 = H9072 tk 0 := (f9088 tk 0 _ gtk rfl)
            have q9096 : H9083 tk 0 = (rb : Int) := k9095.trans q9080
            refine wp_of e25 c25_118 (xc_V (pc' := 121) (r := r0) (as := [vI 12, vI 0, vI 4, vI 12]) (st := []) (lm_1_154) rfl rfl (Nat.le_of_ble_eq_true rfl) w9087 g0 sh_3 (by decide) rfl (by decide) (s_29 w9087 g0 ⟨by omega, by omega⟩ ⟨by omega, by omega⟩ ⟨by omega, by omega⟩ ⟨by omega, by omega⟩ q9094 gtk q9096 grb) (fun R9097 T9098 H9099 p9100 => ?_))
            obtain ⟨e9101, w9103, f9104, z9105, e9102, b9106⟩ := p9100
            subst e9101
            subst e9102
            have f9107 := f9091.tr f9104 rfl
            show wp _ _ 25 121 [(2, .ref r9004), (0, .ref r0), (1, .ref r1)] [vI z9105] _ H9099 _
            refine wp_of e25 c25_121 (rw_if_ne (p1 := 126) (p2 := 124) (by decide) rfl ⟨by omega, by omega⟩ (fun c9108 => ?_) (fun c9108 => ?_))
            · refine wp_of e25 c25_126 (rw_aload_n (pc' := 127) (v := .ref r9004) rfl rfl rfl ?_)
              refine wp_of e25 c25_127 (rw_aload_n (pc' := 128) (v := .ref r0) rfl rfl rfl ?_)
              refine wp_of e25 c25_128 (xg_I (pc' := 131) lf_1_158 w9103 g0 sh_3 (by decide) (by decide) ty_3_1 rfl rfl (fun b9109 b9110 => ?_))
              refine wp_of e25 c25_131 (xp_I (pc' := 134) lf_1_172 w9103 g9006 sh_35 (by decide) (by decide) ty_35_9 rfl rfl (by omega) (by omega) ⟨by omega, by omega⟩ rfl (fun H9111 e9112 w9113 => ?_))
              have f9114 := f9107.put' e9112 g9006 rfl
              have k9115 : H9111 r9004 9 = H9099 r0 1 := wq_u_s e9112
              refine wp_of e25 c25_134 (rw_aload_n (pc' := 135) (v := .ref r9004) rfl rfl rfl ?_)
              refine wp_of e25 c25_135 (rw_aload_n (pc' := 136) (v := .ref r0) rfl rfl rfl ?_)
              refine wp_of e25 c25_136 (xg_I (pc' := 139) lf_1_164 w9113 g0 sh_3 (by decide) (by decide) ty_3_2 rfl rfl (fun b9116 b9117 => ?_))
              refine wp_of e25 c25_139 (xp_I (pc' := 142) lf_1_175 w9113 g9006 sh_35 (by decide) (by decide) ty_35_10 rfl rfl (by omega) (by omega) ⟨by omega, by omega⟩ rfl (fun H9118 e9119 w9120 => ?_))
              have f9121 := f9114.put' e9119 g9006 rfl
              have k9122 : H9118 r9004 10 = H9111 r0 2 := wq_u_s e9119
              refine wp_of e25 c25_142 (rw_iconst (pc' := 143) rfl ?_)
              exact wp_zreturn e25 c25_143 rfl (by omega) ⟨rfl, w9120, f9121, 1, rfl, ⟨by omega, by omega⟩⟩
            · refine wp_of e25 c25_124 (rw_iconst (pc' := 125) rfl ?_)
              exact wp_zreturn e25 c25_125 rfl (by omega) ⟨rfl, w9103, f9107, 0, rfl, ⟨by omega, by omega⟩⟩
        · refine wp_of e25 c25_84 (rw_iconst (pc' := 85) rfl ?_)
          exact wp_zreturn e25 c25_85 rfl (by omega) ⟨rfl, w9057, f9061, 0, rfl, ⟨by omega, by omega⟩⟩
    · refine wp_of e25 c25_27 (rw_aload_n (pc' := 28) (v := .ref r0) rfl rfl rfl ?_)
      refine wp_of e25 c25_28 (rw_iconst (pc' := 29) rfl ?_)
      refine wp_of e25 c25_29 (xc_V (pc' := 32) (r := r0) (as := [vI 3]) (st := []) (lm_1_47) rfl rfl (Nat.le_of_ble_eq_true rfl) hW g0 sh_3 (by decide) rfl (by decide) (s_20 hW g0 ⟨by omega, by omega⟩) (fun R9123 T9124 H9125 p9126 => ?_))
      obtain ⟨e9127, w9129, f9130, z9131, e9128, b9132⟩ := p9126
      subst e9127
      subst e9128
      have f9133 := f0.tr f9130 rfl
      show wp _ _ 25 32 [(0, .ref r0), (1, .ref r1)] [vI z9131] _ H9125 _
      exact wp_zreturn e25 c25_32 rfl (by omega) ⟨rfl, w9129, f9133, z9131, rfl, ⟨by omega, by omega⟩⟩
  · refine wp_of e25 c25_7 (rw_aload_n (pc' := 8) (v := .ref r0) rfl rfl rfl ?_)
    refine wp_of e25 c25_8 (rw_iconst (pc' := 9) rfl ?_)
    refine wp_of e25 c25_9 (xc_V (pc' := 12) (r := r0) (as := [vI 1]) (st := []) (lm_1_47) rfl rfl (Nat.le_of_ble_eq_true rfl) hW g0 sh_3 (by decide) rfl (by decide) (s_20 hW g0 ⟨by omega, by omega⟩) (fun R9134 T9135 H9136 p9137 => ?_))
    obtain ⟨e9138, w9140, f9141, z9142, e9139, b9143⟩ := p9137
    subst e9138
    subst e9139
    have f9144 := f0.tr f9141 rfl
    show wp _ _ 25 12 [(0, .ref r0), (1, .ref r1)] [vI z9142] _ H9136 _
    exact wp_zreturn e25 c25_12 rfl (by omega) ⟨rfl, w9140, f9144, z9142, rfl, ⟨by omega, by omega⟩⟩
/-! StrikeAwake.hourBits(II)I -/
theorem e31 : wq_en 31 = some (0, 2, false, some FieldType.int) := rfl
theorem c31_0 : mc_cd 31 0 = some (.lconst 1, 1) := by decide +kernel
theorem c31_1 : mc_cd 31 1 = some (.iload_n 1, 1) := by decide +kernel
theorem c31_2 : mc_cd 31 2 = some (.lshl, 1) := by decide +kernel
theorem c31_3 : mc_cd 31 3 = some (.lconst 1, 1) := by decide +kernel
theorem c31_4 : mc_cd 31 4 = some (.iload_n 0, 1) := by decide +kernel
theorem c31_5 : mc_cd 31 5 = some (.lshl, 1) := by decide +kernel
theorem c31_6 : mc_cd 31 6 = some (.lsub, 1) := by decide +kernel
theorem c31_7 : mc_cd 31 7 = some (.l2i, 1) := by decide +kernel
theorem c31_8 : mc_cd 31 8 = some (.ldc_w 350, 3) := by decide +kernel
theorem c31_11 : mc_cd 31 11 = some (.iand, 1) := by decide +kernel
theorem c31_12 : mc_cd 31 12 = some (.ireturn, 1) := by decide +kernel
abbrev q_31 (a0 : Int) (a1 : Int) (T : wq_T) (H : wq_H) : Option Value → wq_T → wq_H → Prop := fun r T' H' => T = T' ∧ H = H' ∧ ∃ z : Int, some (vI z) = r ∧ ((-2147483648) ≤ z ∧ z ≤ 2147483647)
set_option maxHeartbeats 4000000 in
theorem s_31 {kt : Nat → Option mc_E} {T : wq_T} {H : wq_H} {a0 : Int} {a1 : Int} (hW : WT T H) (i0 : (-2147483648) ≤ a0 ∧ a0 ≤ 2147483647) (i1 : (-2147483648) ≤ a1 ∧ a1 ≤ 2147483647) : wpc kt 1 31 [vI a0, vI a1] T H (q_31 a0 a1 T H) := by
  refine wp_enter e31 (Nat.le_of_ble_eq_true rfl) rfl ?_
  show wp _ _ 31 0 [(0, vI a0), (1, vI a1)] [] _ H _
  refine wp_of e31 c31_0 (rw_lconst (pc' := 1) (z := 1) rfl rfl ?_)
  refine wp_of e31 c31_1 (rw_iload_n (pc' := 2) (z := a1) rfl rfl ?_)
  refine wp_of e31 c31_2 (rw_lshl (pc' := 3) rfl ?_)
  obtain ⟨v9155, e9156⟩ : ∃ x : Int, x = wl_shl 1 a1 := ⟨_, rfl⟩
  rw [← e9156]
  have b9157 : -9223372036854775808 ≤ v9155 ∧ v9155 ≤ 9223372036854775807 := by
    rw [e9156]
    exact wL_shl _ _
  refine wp_of e31 c31_3 (rw_lconst (pc' := 4) (z := 1) rfl rfl ?_)
  refine wp_of e31 c31_4 (rw_iload_n (pc' := 5) (z := a0) rfl rfl ?_)
  refine wp_of e31 c31_5 (rw_lshl (pc' := 6) rfl ?_)
  obtain ⟨v9158, e9159⟩ : ∃ x : Int, x = wl_shl 1 a0 := ⟨_, rfl⟩
  rw [← e9159]
  have b9160 : -9223372036854775808 ≤ v9158 ∧ v9158 ≤ 9223372036854775807 := by
    rw [e9159]
    exact wL_shl _ _
  refine wp_of e31 c31_6 (rw_lsubw (pc' := 7) rfl ?_)
  obtain ⟨v9161, e9162⟩ : ∃ x : Int, x = wl_w (v9155 - v9158) := ⟨_, rfl⟩
  rw [← e9162]
  have b9163 : -9223372036854775808 ≤ v9161 ∧ v9161 ≤ 9223372036854775807 := by
    rw [e9162]
    exact wL_w _
  refine wp_of e31 c31_7 (rw_l2i (pc' := 8) rfl ?_)
  obtain ⟨v9164, e9165⟩ : ∃ x : Int, x = wq_w v9161 := ⟨_, rfl⟩
  rw [← e9165]
  have b9166 : -2147483648 ≤ v9164 ∧ v9164 ≤ 2147483647 := by
    rw [e9165]
    exact wI_w _
  have b9167 : (-2147483648 ≤ v9161 ∧ v9161 ≤ 2147483647) → v9164 = v9161 := by
    rw [e9165]
    exact fun h => wq_w_id h
  refine wp_of e31 c31_8 (rw_ldc_wI (pc' := 11) (z := 16777215) rfl rfl rfl ?_)
  refine wp_of e31 c31_11 (rw_iand (pc' := 12) rfl ?_)
  obtain ⟨v9168, e9169⟩ : ∃ x : Int, x = wq_and v9164 16777215 := ⟨_, rfl⟩
  rw [← e9169]
  have b9170 : 0 ≤ v9168 ∧ v9168 ≤ 16777215 := by
    rw [e9169]
    exact wq_and_b _ (by omega) (by omega)
  exact wp_ireturn e31 c31_12 rfl ⟨rfl, rfl, v9168, rfl, ⟨by omega, by omega⟩⟩
/-! StrikeAwake$Reader.readsCustoms(LStrikeAwake$Parish;)Z -/
theorem e30 : wq_en 30 = some (1, 3, false, some FieldType.boolean) := rfl
theorem c30_0 : mc_cd 30 0 = some (.aload_n 1, 1) := by decide +kernel
theorem c30_1 : mc_cd 30 1 = some (.getfield 143, 3) := by decide +kernel
theorem c30_4 : mc_cd 30 4 = some (.aload_n 1, 1) := by decide +kernel
theorem c30_5 : mc_cd 30 5 = some (.getfield 44, 3) := by decide +kernel
theorem c30_8 : mc_cd 30 8 = some (.aaload, 1) := by decide +kernel
theorem c30_9 : mc_cd 30 9 = some (.astore_n 2, 1) := by decide +kernel
theorem c30_10 : mc_cd 30 10 = some (.aload_n 0, 1) := by decide +kernel
theorem c30_11 : mc_cd 30 11 = some (.getfield 12, 3) := by decide +kernel
theorem c30_14 : mc_cd 30 14 = some (.getstatic 178, 3) := by decide +kernel
theorem c30_17 : mc_cd 30 17 = some (.getfield 181, 3) := by decide +kernel
theorem c30_20 : mc_cd 30 20 = some (.invokevirtual 185, 3) := by decide +kernel
theorem c30_23 : mc_cd 30 23 = some (.ifCond .eq 30, 3) := by decide +kernel
theorem c30_26 : mc_cd 30 26 = some (.aload_n 0, 1) := by decide +kernel
theorem c30_27 : mc_cd 30 27 = some (.getfield 12, 3) := by decide +kernel
theorem c30_30 : mc_cd 30 30 = some (.invokevirtual 74, 3) := by decide +kernel
theorem c30_33 : mc_cd 30 33 = some (.aload_n 2, 1) := by decide +kernel
theorem c30_34 : mc_cd 30 34 = some (.aload_n 0, 1) := by decide +kernel
theorem c30_35 : mc_cd 30 35 = some (.iconst 0, 1) := by decide +kernel
theorem c30_36 : mc_cd 30 36 = some (.bipush 23, 2) := by decide +kernel
theorem c30_38 : mc_cd 30 38 = some (.invokevirtual 119, 3) := by decide +kernel
theorem c30_41 : mc_cd 30 41 = some (.putfield 188, 3) := by decide +kernel
theorem c30_44 : mc_cd 30 44 = some (.aload_n 2, 1) := by decide +kernel
theorem c30_45 : mc_cd 30 45 = some (.getfield 188, 3) := by decide +kernel
theorem c30_48 : mc_cd 30 48 = some (.ifCond .ge 5, 3) := by decide +kernel
theorem c30_51 : mc_cd 30 51 = some (.iconst 0, 1) := by decide +kernel
theorem c30_52 : mc_cd 30 52 = some (.ireturn, 1) := by decide +kernel
theorem c30_53 : mc_cd 30 53 = some (.aload_n 0, 1) := by decide +kernel
theorem c30_54 : mc_cd 30 54 = some (.getfield 12, 3) := by decide +kernel
theorem c30_57 : mc_cd 30 57 = some (.getstatic 191, 3) := by decide +kernel
theorem c30_60 : mc_cd 30 60 = some (.getfield 181, 3) := by decide +kernel
theorem c30_63 : mc_cd 30 63 = some (.invokevirtual 185, 3) := by decide +kernel
theorem c30_66 : mc_cd 30 66 = some (.ifCond .eq 41, 3) := by decide +kernel
theorem c30_69 : mc_cd 30 69 = some (.aload_n 0, 1) := by decide +kernel
theorem c30_70 : mc_cd 30 70 = some (.getfield 12, 3) := by decide +kernel
theorem c30_73 : mc_cd 30 73 = some (.invokevirtual 74, 3) := by decide +kernel
theorem c30_76 : mc_cd 30 76 = some (.aload_n 0, 1) := by decide +kernel
theorem c30_77 : mc_cd 30 77 = some (.bipush 23, 2) := by decide +kernel
theorem c30_79 : mc_cd 30 79 = some (.iconst 1, 1) := by decide +kernel
theorem c30_80 : mc_cd 30 80 = some (.bipush 24, 2) := by decide +kernel
theorem c30_82 : mc_cd 30 82 = some (.bipush 24, 2) := by decide +kernel
theorem c30_84 : mc_cd 30 84 = some (.invokevirtual 154, 3) := by decide +kernel
theorem c30_87 : mc_cd 30 87 = some (.ifCond .ne 5, 3) := by decide +kernel
theorem c30_90 : mc_cd 30 90 = some (.iconst 0, 1) := by decide +kernel
theorem c30_91 : mc_cd 30 91 = some (.ireturn, 1) := by decide +kernel
theorem c30_92 : mc_cd 30 92 = some (.aload_n 2, 1) := by decide +kernel
theorem c30_93 : mc_cd 30 93 = some (.aload_n 0, 1) := by decide +kernel
theorem c30_94 : mc_cd 30 94 = some (.getfield 158, 3) := by decide +kernel
theorem c30_97 : mc_cd 30 97 = some (.aload_n 0, 1) := by decide +kernel
theorem c30_98 : mc_cd 30 98 = some (.getfield 164, 3) := by decide +kernel
theorem c30_101 : mc_cd 30 101 = some (.invokestatic 194, 3) := by decide +kernel
theorem c30_104 : mc_cd 30 104 = some (.putfield 197, 3) := by decide +kernel
theorem c30_107 : mc_cd 30 107 = some (.aload_n 0, 1) := by decide +kernel
theorem c30_108 : mc_cd 30 108 = some (.getfield 12, 3) := by decide +kernel
theorem c30_111 : mc_cd 30 111 = some (.getstatic 200, 3) := by decide +kernel
theorem c30_114 : mc_cd 30 114 = some (.getfield 181, 3) := by decide +kernel
theorem c30_117 : mc_cd 30 117 = some (.invokevirtual 185, 3) := by decide +kernel
theorem c30_120 : mc_cd 30 120 = some (.ifCond .eq 15, 3) := by decide +kernel
theorem c30_123 : mc_cd 30 123 = some (.aload_n 0, 1) := by decide +kernel
theorem c30_124 : mc_cd 30 124 = some (.getfield 12, 3) := by decide +kernel
theorem c30_127 : mc_cd 30 127 = some (.invokevirtual 74, 3) := by decide +kernel
theorem c30_130 : mc_cd 30 130 = some (.aload_n 2, 1) := by decide +kernel
theorem c30_131 : mc_cd 30 131 = some (.iconst 1, 1) := by decide +kernel
theorem c30_132 : mc_cd 30 132 = some (.putfield 203, 3) := by decide +kernel
theorem c30_135 : mc_cd 30 135 = some (.aload_n 1, 1) := by decide +kernel
theorem c30_136 : mc_cd 30 136 = some (.dup, 1) := by decide +kernel
theorem c30_137 : mc_cd 30 137 = some (.getfield 44, 3) := by decide +kernel
theorem c30_140 : mc_cd 30 140 = some (.iconst 1, 1) := by decide +kernel
theorem c30_141 : mc_cd 30 141 = some (.iadd, 1) := by decide +kernel
theorem c30_142 : mc_cd 30 142 = some (.putfield 44, 3) := by decide +kernel
theorem c30_145 : mc_cd 30 145 = some (.iconst 1, 1) := by decide +kernel
theorem c30_146 : mc_cd 30 146 = some (.ireturn, 1) := by decide +kernel
abbrev q_30 (r0 : Nat) (r1 : Nat) (tk : Nat) (rb : Nat) (T : wq_T) (H : wq_H) : Option Value → wq_T → wq_H → Prop := fun r T' H' => T = T' ∧ WT T H' ∧ wfr [(27, 10), (35, 11), (35, 12), (35, 13), (3, 1), (3, 2), (3, 3), (3, 4), (4, 2), (4, 3), (4, 4), (4, 5), (4, 6)] T H H' ∧ ∃ z : Int, some (vI z) = r ∧ (0 ≤ z ∧ z ≤ 1)
set_option maxHeartbeats 4000000 in
theorem s_30 {kt : Nat → Option mc_E} {T : wq_T} {H : wq_H} {r0 : Nat} {r1 : Nat} {tk : Nat} {rb : Nat} (hW : WT T H) (g0 : T.2.2.2 r0 = some 3) (g1 : T.2.2.2 r1 = some 27) (qtk : H r0 0 = (tk : Int)) (gtk : T.2.2.2 tk = some 4) (qrb : H tk 0 = (rb : Int)) (grb : T.2.2.2 rb = some 2) (p0 : H r1 10 ≤ 5) : wpc kt 4 30 [.ref r0, .ref r1] T H (q_30 r0 r1 tk rb T H) := by
  refine wp_enter e30 (Nat.le_of_ble_eq_true rfl) rfl ?_
  have f0 : wfr [(27, 10), (35, 11), (35, 12), (35, 13), (3, 1), (3, 2), (3, 3), (3, 4), (4, 2), (4, 3), (4, 4), (4, 5), (4, 6)] T H H := wfr.rf
  show wp _ _ 30 0 [(0, .ref r0), (1, .ref r1)] [] _ H _
  refine wp_of e30 c30_0 (rw_aload_n (pc' := 1) (v := .ref r1) rfl rfl rfl ?_)
  refine wp_of e30 c30_1 (xg_R (pc' := 4) lf_1_143 hW g1 sh_27 (by decide) (by decide) ty_27_0 rfl rfl (fun r9508 q9509 g9510 => ?_))
  refine wp_of e30 c30_4 (rw_aload_n (pc' := 5) (v := .ref r1) rfl rfl rfl ?_)
  refine wp_of e30 c30_5 (xg_I (pc' := 8) lf_1_44 hW g1 sh_27 (by decide) (by decide) ty_27_10 rfl rfl (fun b9511 b9512 => ?_))
  refine wp_of e30 c30_8 (xa_R (pc' := 9) (by decide) hW g9510 sh_28 (by decide) (ty_28 _) (by omega) (by omega) rfl (fun r9513 q9514 g9515 => ?_))
  refine wp_of e30 c30_9 (rw_astore_n (pc' := 10) (v := .ref r9513) (L' := [(2, .ref r9513), (0, .ref r0), (1, .ref r1)]) rfl rfl rfl rfl ?_)
  refine wp_of e30 c30_10 (rw_aload_n (pc' := 11) (v := .ref r0) rfl rfl rfl ?_)
  refine wp_of e30 c30_11 (xg_K (pc' := 14) lf_1_12 hW g0 sh_3 (by decide) (by decide) rfl qtk rfl ?_)
  refine wp_of e30 c30_14 (rw_gs (pc' := 17) (k := 24) rfl rfl rfl rfl ?_)
  have k9516 : H 24 0 = ((40 : Nat) : Int) := (hW.2 24 _ (hW.1.2.2 8 (by decide))).2.2 0 (by decide) |> fun z => by have z1 : (40 : Int) ≤ H 24 0 ∧ H 24 0 ≤ 40 := z; omega
  refine wp_of e30 c30_17 (rw_getR (pc' := 20) (n := 2) (b := 40) (e := _) (lf_1_181).choose_spec.1 (lf_1_181).choose_spec.2.1 (hW.sh (hW.1.2.2 8 (by decide)) rfl) (by decide) rfl k9516 rfl ?_)
  refine wp_of e30 c30_20 (xc_V (pc' := 23) (r := tk) (as := [.ref 40]) (st := []) (lm_1_185) rfl rfl (Nat.le_of_ble_eq_true rfl) hW gtk sh_4 (by decide) rfl (by decide) (s_19 hW gtk rfl) (fun R9517 T9518 H9519 p9520 => ?_))
  obtain ⟨e9521, e9523, z9524, e9522, b9525⟩ := p9520
  subst e9521
  subst e9522
  subst e9523
  show wp _ _ 30 23 [(2, .ref r9513), (0, .ref r0), (1, .ref r1)] [vI z9524] _ H _
  refine wp_of e30 c30_23 (rw_if_eq (p1 := 53) (p2 := 26) (by decide) rfl ⟨by omega, by omega⟩ (fun c9526 => ?_) (fun c9526 => ?_))
  · refine wp_of e30 c30_53 (rw_aload_n (pc' := 54) (v := .ref r0) rfl rfl rfl ?_)
    refine wp_of e30 c30_54 (xg_K (pc' := 57) lf_1_12 hW g0 sh_3 (by decide) (by decide) rfl qtk rfl ?_)
    refine wp_of e30 c30_57 (rw_gs (pc' := 60) (k := 25) rfl rfl rfl rfl ?_)
    have k9527 : H 25 0 = ((41 : Nat) : Int) := (hW.2 25 _ (hW.1.2.2 9 (by decide))).2.2 0 (by decide) |> fun z => by have z1 : (41 : Int) ≤ H 25 0 ∧ H 25 0 ≤ 41 := z; omega
    refine wp_of e30 c30_60 (rw_getR (pc' := 63) (n := 2) (b := 41) (e := _) (lf_1_181).choose_spec.1 (lf_1_181).choose_spec.2.1 (hW.sh (hW.1.2.2 9 (by decide)) rfl) (by decide) rfl k9527 rfl ?_)
    refine wp_of e30 c30_63 (xc_V (pc' := 66) (r := tk) (as := [.ref 41]) (st := []) (lm_1_185) rfl rfl (Nat.le_of_ble_eq_true rfl) hW gtk sh_4 (by decide) rfl (by decide) (s_19 hW gtk rfl) (fun R9528 T9529 H9530 p9531 => ?_))
    obtain ⟨e9532, e9534, z9535, e9533, b9536⟩ := p9531
    subst e9532
    subst e9533
    subst e9534
    show wp _ _ 30 66 [(2, .ref r9513), (0, .ref r0), (1, .ref r1)] [vI z9535] _ H _
    refine wp_of e30 c30_66 (rw_if_eq (p1 := 107) (p2 := 69) (by decide) rfl ⟨by omega, by omega⟩ (fun c9537 => ?_) (fun c9537 => ?_))
    · refine wp_of e30 c30_107 (rw_aload_n (pc' := 108) (v := .ref r0) rfl rfl rfl ?_)
      refine wp_of e30 c30_108 (xg_K (pc' := 111) lf_1_12 hW g0 sh_3 (by decide) (by decide) rfl qtk rfl ?_)
      refine wp_of e30 c30_111 (rw_gs (pc' := 114) (k := 26) rfl rfl rfl rfl ?_)
      have k9538 : H 26 0 = ((42 : Nat) : Int) := (hW.2 26 _ (hW.1.2.2 10 (by decide))).2.2 0 (by decide) |> fun z => by have z1 : (42 : Int) ≤ H 26 0 ∧ H 26 0 ≤ 42 := z; omega
      refine wp_of e30 c30_114 (rw_getR (pc' := 117) (n := 2) (b := 42) (e := _) (lf_1_181).choose_spec.1 (lf_1_181).choose_spec.2.1 (hW.sh (hW.1.2.2 10 (by decide)) rfl) (by decide) rfl k9538 rfl ?_)
      refine wp_of e30 c30_117 (xc_V (pc' := 120) (r := tk) (as := [.ref 42]) (st := []) (lm_1_185) rfl rfl (Nat.le_of_ble_eq_true rfl) hW gtk sh_4 (by decide) rfl (by decide) (s_19 hW gtk rfl) (fun R9539 T9540 H9541 p9542 => ?_))
      obtain ⟨e9543, e9545, z9546, e9544, b9547⟩ := p9542
      subst e9543
      subst e9544
      subst e9545
      show wp _ _ 30 120 [(2, .ref r9513), (0, .ref r0), (1, .ref r1)] [vI z9546] _ H _
      refine wp_of e30 c30_120 (rw_if_eq (p1 := 135) (p2 := 123) (by decide) rfl ⟨by omega, by omega⟩ (fun c9548 => ?_) (fun c9548 => ?_))
      · refine wp_of e30 c30_135 (rw_aload_n (pc' := 136) (v := .ref r1) rfl rfl rfl ?_)
        refine wp_of e30 c30_136 (rw_dup (pc' := 137) rfl rfl ?_)
        refine wp_of e30 c30_137 (xg_I (pc' := 140) lf_1_44 hW g1 sh_27 (by decide) (by decide) ty_27_10 rfl rfl (fun b9549 b9550 => ?_))
        refine wp_of e30 c30_140 (rw_iconst (pc' := 141) rfl ?_)
        refine wp_of e30 c30_141 (rw_iadd (pc' := 142) rfl ?_)
        refine wp_of e30 c30_142 (xp_I (pc' := 145) lf_1_44 hW g1 sh_27 (by decide) (by decide) ty_27_10 rfl rfl (by omega) (by omega) ⟨by omega, by omega⟩ rfl (fun H9551 e9552 w9553 => ?_))
        have f9554 := f0.put' e9552 g1 rfl
        have k9555 : H9551 r1 10 = (H r1 10) + 1 := wq_u_s e9552
        refine wp_of e30 c30_145 (rw_iconst (pc' := 146) rfl ?_)
        exact wp_zreturn e30 c30_146 rfl (by omega) ⟨rfl, w9553, f9554, 1, rfl, ⟨by omega, by omega⟩⟩
      · refine wp_of e30 c30_123 (rw_aload_n (pc' := 124) (v := .ref r0) rfl rfl rfl ?_)
        refine wp_of e30 c30_124 (xg_K (pc' := 127) lf_1_12 hW g0 sh_3 (by decide) (by decide) rfl qtk rfl ?_)
        refine wp_of e30 c30_127 (xc_V (pc' := 130) (r := tk) (as := []) (st := []) (lm_1_74) rfl rfl (Nat.le_of_ble_eq_true rfl) hW gtk sh_4 (by decide) rfl (by decide) (s_16 hW gtk qrb grb) (fun R9556 T9557 H9558 p9559 => ?_))
        obtain ⟨e9560, w9562, f9563, e9561⟩ := p9559
        subst e9560
        subst e9561
        have f9564 := f0.tr f9563 rfl
        show wp _ _ 30 130 [(2, .ref r9513), (0, .ref r0), (1, .ref r1)] [] _ H9558 _
        refine wp_of e30 c30_130 (rw_aload_n (pc' := 131) (v := .ref r9513) rfl rfl rfl ?_)
        refine wp_of e30 c30_131 (rw_iconst (pc' := 132) rfl ?_)
        refine wp_of e30 c30_132 (xp_Z (pc' := 135) lf_1_203 w9562 g9515 sh_35 (by decide) (by decide) ty_35_13 rfl rfl (by omega) (by omega) rfl (fun H9565 e9566 w9567 => ?_))
        have f9568 := f9564.put' e9566 g9515 rfl
        have k9569 : H9565 r9513 13 = 1 := wq_u_s e9566
        refine wp_of e30 c30_135 (rw_aload_n (pc' := 136) (v := .ref r1) rfl rfl rfl ?_)
        refine wp_of e30 c30_136 (rw_dup (pc' := 137) rfl rfl ?_)
        have k9570 : H9565 r1 10 = H r1 10 := ((wq_u_t e9566 g9515 g1 rfl 10).trans (f9563 r1 10 _ g1 rfl))
        refine wp_of e30 c30_137 (xg_I (pc' := 140) lf_1_44 w9567 g1 sh_27 (by decide) (by decide) ty_27_10 rfl rfl (fun b9571 b9572 => ?_))
        refine wp_of e30 c30_140 (rw_iconst (pc' := 141) rfl ?_)
        refine wp_of e30 c30_141 (rw_iadd (pc' := 142) rfl ?_)
        refine wp_of e30 c30_142 (xp_I (pc' := 145) lf_1_44 w9567 g1 sh_27 (by decide) (by decide) ty_27_10 rfl rfl (by omega) (by omega) ⟨by omega, by omega⟩ rfl (fun H9573 e9574 w9575 => ?_))
        have f9576 := f9568.put' e9574 g1 rfl
        have k9577 : H9573 r1 10 = (H9565 r1 10) + 1 := wq_u_s e9574
        refine wp_of e30 c30_145 (rw_iconst (pc' := 146) rfl ?_)
        exact wp_zreturn e30 c30_146 rfl (by omega) ⟨rfl, w9575, f9576, 1, rfl, ⟨by omega, by omega⟩⟩
    · refine wp_of e30 c30_69 (rw_aload_n (pc' := 70) (v := .ref r0) rfl rfl rfl ?_)
      refine wp_of e30 c30_70 (xg_K (pc' := 73) lf_1_12 hW g0 sh_3 (by decide) (by decide) rfl qtk rfl ?_)
      refine wp_of e30 c30_73 (xc_V (pc' := 76) (r := tk) (as := []) (st := []) (lm_1_74) rfl rfl (Nat.le_of_ble_eq_true rfl) hW gtk sh_4 (by decide) rfl (by decide) (s_16 hW gtk qrb grb) (fun R9578 T9579 H9580 p9581 => ?_))
      obtain ⟨e9582, w9584, f9585, e9583⟩ := p9581
      subst e9582
      subst e9583
      have f9586 := f0.tr f9585 rfl
      show wp _ _ 30 76 [(2, .ref r9513), (0, .ref r0), (1, .ref r1)] [] _ H9580 _
      refine wp_of e30 c30_76 (rw_aload_n (pc' := 77) (v := .ref r0) rfl rfl rfl ?_)
      refine wp_of e30 c30_77 (rw_bipush (pc' := 79) (z := 23) rfl (by decide) ?_)
      refine wp_of e30 c30_79 (rw_iconst (pc' := 80) rfl ?_)
      refine wp_of e30 c30_80 (rw_bipush (pc' := 82) (z := 24) rfl (by decide) ?_)
      refine wp_of e30 c30_82 (rw_bipush (pc' := 84) (z := 24) rfl (by decide) ?_)
      have k9587 : H9580 r0 0 = H r0 0 := (f9585 r0 0 _ g0 rfl)
      have q9588 : H9580 r0 0 = (tk : Int) := k9587.trans qtk
      have k9589 : H9580 tk 0 = H tk 0 := (f9585 tk 0 _ gtk rfl)
      have q9590 : H9580 tk 0 = (rb : Int) := k9589.trans qrb
      refine wp_of e30 c30_84 (xc_V (pc' := 87) (r := r0) (as := [vI 23, vI 1, vI 24, vI 24]) (st := []) (lm_1_154) rfl rfl (Nat.le_of_ble_eq_true rfl) w9584 g0 sh_3 (by decide) rfl (by decide) (s_29 w9584 g0 ⟨by omega, by omega⟩ ⟨by omega, by omega⟩ ⟨by omega, by omega⟩ ⟨by omega, by omega⟩ q9588 gtk q9590 grb) (fun R9591 T9592 H9593 p9594 => ?_))
      obtain ⟨e9595, w9597, f9598, z9599, e9596, b9600⟩ := p9594
      subst e9595
      subst e9596
      have f9601 := f9586.tr f9598 rfl
      show wp _ _ 30 87 [(2, .ref r9513), (0, .ref r0), (1, .ref r1)] [vI z9599] _ H9593 _
      refine wp_of e30 c30_87 (rw_if_ne (p1 := 92) (p2 := 90) (by decide) rfl ⟨by omega, by omega⟩ (fun c9602 => ?_) (fun c9602 => ?_))
      · refine wp_of e30 c30_92 (rw_aload_n (pc' := 93) (v := .ref r9513) rfl rfl rfl ?_)
        refine wp_of e30 c30_93 (rw_aload_n (pc' := 94) (v := .ref r0) rfl rfl rfl ?_)
        refine wp_of e30 c30_94 (xg_I (pc' := 97) lf_1_158 w9597 g0 sh_3 (by decide) (by decide) ty_3_1 rfl rfl (fun b9603 b9604 => ?_))
        refine wp_of e30 c30_97 (rw_aload_n (pc' := 98) (v := .ref r0) rfl rfl rfl ?_)
        refine wp_of e30 c30_98 (xg_I (pc' := 101) lf_1_164 w9597 g0 sh_3 (by decide) (by decide) ty_3_2 rfl rfl (fun b9605 b9606 => ?_))
        refine wp_of e30 c30_101 (xc_S (pc' := 104) (as := [vI (H9593 r0 1), vI (H9593 r0 2)]) (st := [.ref r9513]) (lm_1_194) rfl rfl (Nat.le_of_ble_eq_true rfl) rfl (by decide) (s_31 w9597 ⟨by omega, by omega⟩ ⟨by omega, by omega⟩) (fun R9607 T9608 H9609 p9610 => ?_))
        obtain ⟨e9611, e9613, z9614, e9612, b9615⟩ := p9610
        subst e9611
        subst e9612
        subst e9613
        show wp _ _ 30 104 [(2, .ref r9513), (0, .ref r0), (1, .ref r1)] [vI z9614, .ref r9513] _ H9593 _
        refine wp_of e30 c30_104 (xp_I (pc' := 107) lf_1_197 w9597 g9515 sh_35 (by decide) (by decide) ty_35_12 rfl rfl (by omega) (by omega) ⟨by omega, by omega⟩ rfl (fun H9616 e9617 w9618 => ?_))
        have f9619 := f9601.put' e9617 g9515 rfl
        have k9620 : H9616 r9513 12 = z9614 := wq_u_s e9617
        refine wp_of e30 c30_107 (rw_aload_n (pc' := 108) (v := .ref r0) rfl rfl rfl ?_)
        have k9621 : H9616 r0 0 = H9580 r0 0 := ((wq_u_t e9617 g9515 g0 rfl 0).trans (f9598 r0 0 _ g0 rfl))
        have q9622 : H9616 r0 0 = (tk : Int) := k9621.trans q9588
        refine wp_of e30 c30_108 (xg_K (pc' := 111) lf_1_12 w9618 g0 sh_3 (by decide) (by decide) rfl q9622 rfl ?_)
        refine wp_of e30 c30_111 (rw_gs (pc' := 114) (k := 26) rfl rfl rfl rfl ?_)
        have k9623 : H9616 26 0 = ((42 : Nat) : Int) := (w9618.2 26 _ (w9618.1.2.2 10 (by decide))).2.2 0 (by decide) |> fun z => by have z1 : (42 : Int) ≤ H9616 26 0 ∧ H9616 26 0 ≤ 42 := z; omega
        refine wp_of e30 c30_114 (rw_getR (pc' := 117) (n := 2) (b := 42) (e := _) (lf_1_181).choose_spec.1 (lf_1_181).choose_spec.2.1 (w9618.sh (w9618.1.2.2 10 (by decide)) rfl) (by decide) rfl k9623 rfl ?_)
        refine wp_of e30 c30_117 (xc_V (pc' := 120) (r := tk) (as := [.ref 42]) (st := []) (lm_1_185) rfl rfl (Nat.le_of_ble_eq_true rfl) w9618 gtk sh_4 (by decide) rfl (by decide) (s_19 w9618 gtk rfl) (fun R9624 T9625 H9626 p9627 => ?_))
        obtain ⟨e9628, e9630, z9631, e9629, b9632⟩ := p9627
        subst e9628
        subst e9629
        subst e9630
        show wp _ _ 30 120 [(2, .ref r9513), (0, .ref r0), (1, .ref r1)] [vI z9631] _ H9616 _
        refine wp_of e30 c30_120 (rw_if_eq (p1 := 135) (p2 := 123) (by decide) rfl ⟨by omega, by omega⟩ (fun c9633 => ?_) (fun c9633 => ?_))
        · refine wp_of e30 c30_135 (rw_aload_n (pc' := 136) (v := .ref r1) rfl rfl rfl ?_)
          refine wp_of e30 c30_136 (rw_dup (pc' := 137) rfl rfl ?_)
          have k9634 : H9616 r1 10 = H r1 10 := ((wq_u_t e9617 g9515 g1 rfl 10).trans ((f9598 r1 10 _ g1 rfl).trans (f9585 r1 10 _ g1 rfl)))
          refine wp_of e30 c30_137 (xg_I (pc' := 140) lf_1_44 w9618 g1 sh_27 (by decide) (by decide) ty_27_10 rfl rfl (fun b9635 b9636 => ?_))
          refine wp_of e30 c30_140 (rw_iconst (pc' := 141) rfl ?_)
          refine wp_of e30 c30_141 (rw_iadd (pc' := 142) rfl ?_)
          refine wp_of e30 c30_142 (xp_I (pc' := 145) lf_1_44 w9618 g1 sh_27 (by decide) (by decide) ty_27_10 rfl rfl (by omega) (by omega) ⟨by omega, by omega⟩ rfl (fun H9637 e9638 w9639 => ?_))
          have f9640 := f9619.put' e9638 g1 rfl
          have k9641 : H9637 r1 10 = (H9616 r1 10) + 1 := wq_u_s e9638
          refine wp_of e30 c30_145 (rw_iconst (pc' := 146) rfl ?_)
          exact wp_zreturn e30 c30_146 rfl (by omega) ⟨rfl, w9639, f9640, 1, rfl, ⟨by omega, by omega⟩⟩
        · refine wp_of e30 c30_123 (rw_aload_n (pc' := 124) (v := .ref r0) rfl rfl rfl ?_)
          refine wp_of e30 c30_124 (xg_K (pc' := 127) lf_1_12 w9618 g0 sh_3 (by decide) (by decide) rfl q9622 rfl ?_)
          have k9642 : H9616 tk 0 = H9580 tk 0 := ((wq_u_t e9617 g9515 gtk rfl 0).trans (f9598 tk 0 _ gtk rfl))
          have q9643 : H9616 tk 0 = (rb : Int) := k9642.trans q9590
          refine wp_of e30 c30_127 (xc_V (pc' := 130) (r := tk) (as := []) (st := []) (lm_1_74) rfl rfl (Nat.le_of_ble_eq_true rfl) w9618 gtk sh_4 (by decide) rfl (by decide) (s_16 w9618 gtk q9643 grb) (fun R9644 T9645 H9646 p9647 => ?_))
          obtain ⟨e9648, w9650, f9651, e9649⟩ := p9647
          subst e9648
          subst e9649
          have f9652 := f9619.tr f9651 rfl
          show wp _ _ 30 130 [(2, .ref r9513), (0, .ref r0), (1, .ref r1)] [] _ H9646 _
          refine wp_of e30 c30_130 (rw_aload_n (pc' := 131) (v := .ref r9513) rfl rfl rfl ?_)
          refine wp_of e30 c30_131 (rw_iconst (pc' := 132) rfl ?_)
          refine wp_of e30 c30_132 (xp_Z (pc' := 135) lf_1_203 w9650 g9515 sh_35 (by decide) (by decide) ty_35_13 rfl rfl (by omega) (by omega) rfl (fun H9653 e9654 w9655 => ?_))
          have f9656 := f9652.put' e9654 g9515 rfl
          have k9657 : H9653 r9513 13 = 1 := wq_u_s e9654
          refine wp_of e30 c30_135 (rw_aload_n (pc' := 136) (v := .ref r1) rfl rfl rfl ?_)
          refine wp_of e30 c30_136 (rw_dup (pc' := 137) rfl rfl ?_)
          have k9658 : H9653 r1 10 = H r1 10 := ((wq_u_t e9654 g9515 g1 rfl 10).trans ((f9651 r1 10 _ g1 rfl).trans ((wq_u_t e9617 g9515 g1 rfl 10).trans ((f9598 r1 10 _ g1 rfl).trans (f9585 r1 10 _ g1 rfl)))))
          refine wp_of e30 c30_137 (xg_I (pc' := 140) lf_1_44 w9655 g1 sh_27 (by decide) (by decide) ty_27_10 rfl rfl (fun b9659 b9660 => ?_))
          refine wp_of e30 c30_140 (rw_iconst (pc' := 141) rfl ?_)
          refine wp_of e30 c30_141 (rw_iadd (pc' := 142) rfl ?_)
          refine wp_of e30 c30_142 (xp_I (pc' := 145) lf_1_44 w9655 g1 sh_27 (by decide) (by decide) ty_27_10 rfl rfl (by omega) (by omega) ⟨by omega, by omega⟩ rfl (fun H9661 e9662 w9663 => ?_))
          have f9664 := f9656.put' e9662 g1 rfl
          have k9665 : H9661 r1 10 = (H9653 r1 10) + 1 := wq_u_s e9662
          refine wp_of e30 c30_145 (rw_iconst (pc' := 146) rfl ?_)
          exact wp_zreturn e30 c30_146 rfl (by omega) ⟨rfl, w9663, f9664, 1, rfl, ⟨by omega, by omega⟩⟩
      · refine wp_of e30 c30_90 (rw_iconst (pc' := 91) rfl ?_)
        exact wp_zreturn e30 c30_91 rfl (by omega) ⟨rfl, w9597, f9601, 0, rfl, ⟨by omega, by omega⟩⟩
  · refine wp_of e30 c30_26 (rw_aload_n (pc' := 27) (v := .ref r0) rfl rfl rfl ?_)
    refine wp_of e30 c30_27 (xg_K (pc' := 30) lf_1_12 hW g0 sh_3 (by decide) (by decide) rfl qtk rfl ?_)
    refine wp_of e30 c30_30 (xc_V (pc' := 33) (r := tk) (as := []) (st := []) (lm_1_74) rfl rfl (Nat.le_of_ble_eq_true rfl) hW gtk sh_4 (by decide) rfl (by decide) (s_16 hW gtk qrb grb) (fun R9666 T9667 H9668 p9669 => ?_))
    obtain ⟨e9670, w9672, f9673, e9671⟩ := p9669
    subst e9670
    subst e9671
    have f9674 := f0.tr f9673 rfl
    show wp _ _ 30 33 [(2, .ref r9513), (0, .ref r0), (1, .ref r1)] [] _ H9668 _
    refine wp_of e30 c30_33 (rw_aload_n (pc' := 34) (v := .ref r9513) rfl rfl rfl ?_)
    refine wp_of e30 c30_34 (rw_aload_n (pc' := 35) (v := .ref r0) rfl rfl rfl ?_)
    refine wp_of e30 c30_35 (rw_iconst (pc' := 36) rfl ?_)
    refine wp_of e30 c30_36 (rw_bipush (pc' := 38) (z := 23) rfl (by decide) ?_)
    have k9675 : H9668 r0 0 = H r0 0 := (f9673 r0 0 _ g0 rfl)
    have q9676 : H9668 r0 0 = (tk : Int) := k9675.trans qtk
    have k9677 : H9668 tk 0 = H tk 0 := (f9673 tk 0 _ gtk rfl)
    have q9678 : H9668 tk 0 = (rb : Int) := k9677.trans qrb
    refine wp_of e30 c30_38 (xc_V (pc' := 41) (r := r0) (as := [vI 0, vI 23]) (st := [.ref r9513]) (lm_1_119) rfl rfl (Nat.le_of_ble_eq_true rfl) w9672 g0 sh_3 (by decide) rfl (by decide) (s_24 w9672 g0 ⟨by omega, by omega⟩ ⟨by omega, by omega⟩ q9676 gtk q9678 grb) (fun R9679 T9680 H9681 p9682 => ?_))
    obtain ⟨e9683, w9685, f9686, z9688, e9684, b9689, p9687⟩ := p9682
    subst e9683
    subst e9684
    have f9690 := f9674.tr f9686 rfl
    show wp _ _ 30 41 [(2, .ref r9513), (0, .ref r0), (1, .ref r1)] [vI z9688, .ref r9513] _ H9681 _
    refine wp_of e30 c30_41 (xp_I (pc' := 44) lf_1_188 w9685 g9515 sh_35 (by decide) (by decide) ty_35_11 rfl rfl (by omega) (by omega) ⟨by omega, by omega⟩ rfl (fun H9691 e9692 w9693 => ?_))
    have f9694 := f9690.put' e9692 g9515 rfl
    have k9695 : H9691 r9513 11 = z9688 := wq_u_s e9692
    refine wp_of e30 c30_44 (rw_aload_n (pc' := 45) (v := .ref r9513) rfl rfl rfl ?_)
    refine wp_of e30 c30_45 (xg_I (pc' := 48) lf_1_188 w9693 g9515 sh_35 (by decide) (by decide) ty_35_11 rfl rfl (fun b9696 b9697 => ?_))
    refine wp_of e30 c30_48 (rw_if_ge (p1 := 53) (p2 := 51) (by decide) rfl ⟨by omega, by omega⟩ (fun c9698 => ?_) (fun c9698 => ?_))
    · refine wp_of e30 c30_53 (rw_aload_n (pc' := 54) (v := .ref r0) rfl rfl rfl ?_)
      have k9699 : H9691 r0 0 = H9668 r0 0 := ((wq_u_t e9692 g9515 g0 rfl 0).trans (f9686 r0 0 _ g0 rfl))
      have q9700 : H9691 r0 0 = (tk : Int) := k9699.trans q9676
      refine wp_of e30 c30_54 (xg_K (pc' := 57) lf_1_12 w9693 g0 sh_3 (by decide) (by decide) rfl q9700 rfl ?_)
      refine wp_of e30 c30_57 (rw_gs (pc' := 60) (k := 25) rfl rfl rfl rfl ?_)
      have k9701 : H9691 25 0 = ((41 : Nat) : Int) := (w9693.2 25 _ (w9693.1.2.2 9 (by decide))).2.2 0 (by decide) |> fun z => by have z1 : (41 : Int) ≤ H9691 25 0 ∧ H9691 25 0 ≤ 41 := z; omega
      refine wp_of e30 c30_60 (rw_getR (pc' := 63) (n := 2) (b := 41) (e := _) (lf_1_181).choose_spec.1 (lf_1_181).choose_spec.2.1 (w9693.sh (w9693.1.2.2 9 (by decide)) rfl) (by decide) rfl k9701 rfl ?_)
      refine wp_of e30 c30_63 (xc_V (pc' := 66) (r := tk) (as := [.ref 41]) (st := []) (lm_1_185) rfl rfl (Nat.le_of_ble_eq_true rfl) w9693 gtk sh_4 (by decide) rfl (by decide) (s_19 w9693 gtk rfl) (fun R9702 T9703 H9704 p9705 => ?_))
      obtain ⟨e9706, e9708, z9709, e9707, b9710⟩ := p9705
      subst e9706
      subst e9707
      subst e9708
      show wp _ _ 30 66 [(2, .ref r9513), (0, .ref r0), (1, .ref r1)] [vI z9709] _ H9691 _
      refine wp_of e30 c30_66 (rw_if_eq (p1 := 107) (p2 := 69) (by decide) rfl ⟨by omega, by omega⟩ (fun c9711 => ?_) (fun c9711 => ?_))
      · refine wp_of e30 c30_107 (rw_aload_n (pc' := 108) (v := .ref r0) rfl rfl rfl ?_)
        refine wp_of e30 c30_108 (xg_K (pc' := 111) lf_1_12 w9693 g0 sh_3 (by decide) (by decide) rfl q9700 rfl ?_)
        refine wp_of e30 c30_111 (rw_gs (pc' := 114) (k := 26) rfl rfl rfl rfl ?_)
        have k9712 : H9691 26 0 = ((42 : Nat) : Int) := (w9693.2 26 _ (w9693.1.2.2 10 (by decide))).2.2 0 (by decide) |> fun z => by have z1 : (42 : Int) ≤ H9691 26 0 ∧ H9691 26 0 ≤ 42 := z; omega
        refine wp_of e30 c30_114 (rw_getR (pc' := 117) (n := 2) (b := 42) (e := _) (lf_1_181).choose_spec.1 (lf_1_181).choose_spec.2.1 (w9693.sh (w9693.1.2.2 10 (by decide)) rfl) (by decide) rfl k9712 rfl ?_)
        refine wp_of e30 c30_117 (xc_V (pc' := 120) (r := tk) (as := [.ref 42]) (st := []) (lm_1_185) rfl rfl (Nat.le_of_ble_eq_true rfl) w9693 gtk sh_4 (by decide) rfl (by decide) (s_19 w9693 gtk rfl) (fun R9713 T9714 H9715 p9716 => ?_))
        obtain ⟨e9717, e9719, z9720, e9718, b9721⟩ := p9716
        subst e9717
        subst e9718
        subst e9719
        show wp _ _ 30 120 [(2, .ref r9513), (0, .ref r0), (1, .ref r1)] [vI z9720] _ H9691 _
        refine wp_of e30 c30_120 (rw_if_eq (p1 := 135) (p2 := 123) (by decide) rfl ⟨by omega, by omega⟩ (fun c9722 => ?_) (fun c9722 => ?_))
        · refine wp_of e30 c30_135 (rw_aload_n (pc' := 136) (v := .ref r1) rfl rfl rfl ?_)
          refine wp_of e30 c30_136 (rw_dup (pc' := 137) rfl rfl ?_)
          have k9723 : H9691 r1 10 = H r1 10 := ((wq_u_t e9692 g9515 g1 rfl 10).trans ((f9686 r1 10 _ g1 rfl).trans (f9673 r1 10 _ g1 rfl)))
          refine wp_of e30 c30_137 (xg_I (pc' := 140) lf_1_44 w9693 g1 sh_27 (by decide) (by decide) ty_27_10 rfl rfl (fun b9724 b9725 => ?_))
          refine wp_of e30 c30_140 (rw_iconst (pc' := 141) rfl ?_)
          refine wp_of e30 c30_141 (rw_iadd (pc' := 142) rfl ?_)
          refine wp_of e30 c30_142 (xp_I (pc' := 145) lf_1_44 w9693 g1 sh_27 (by decide) (by decide) ty_27_10 rfl rfl (by omega) (by omega) ⟨by omega, by omega⟩ rfl (fun H9726 e9727 w9728 => ?_))
          have f9729 := f9694.put' e9727 g1 rfl
          have k9730 : H9726 r1 10 = (H9691 r1 10) + 1 := wq_u_s e9727
          refine wp_of e30 c30_145 (rw_iconst (pc' := 146) rfl ?_)
          exact wp_zreturn e30 c30_146 rfl (by omega) ⟨rfl, w9728, f9729, 1, rfl, ⟨by omega, by omega⟩⟩
        · refine wp_of e30 c30_123 (rw_aload_n (pc' := 124) (v := .ref r0) rfl rfl rfl ?_)
          refine wp_of e30 c30_124 (xg_K (pc' := 127) lf_1_12 w9693 g0 sh_3 (by decide) (by decide) rfl q9700 rfl ?_)
          have k9731 : H9691 tk 0 = H9668 tk 0 := ((wq_u_t e9692 g9515 gtk rfl 0).trans (f9686 tk 0 _ gtk rfl))
          have q9732 : H9691 tk 0 = (rb : Int) := k9731.trans q9678
          refine wp_of e30 c30_127 (xc_V (pc' := 130) (r := tk) (as := []) (st := []) (lm_1_74) rfl rfl (Nat.le_of_ble_eq_true rfl) w9693 gtk sh_4 (by decide) rfl (by decide) (s_16 w9693 gtk q9732 grb) (fun R9733 T9734 H9735 p9736 => ?_))
          obtain ⟨e9737, w9739, f9740, e9738⟩ := p9736
          subst e9737
          subst e9738
          have f9741 := f9694.tr f9740 rfl
          show wp _ _ 30 130 [(2, .ref r9513), (0, .ref r0), (1, .ref r1)] [] _ H9735 _
          refine wp_of e30 c30_130 (rw_aload_n (pc' := 131) (v := .ref r9513) rfl rfl rfl ?_)
          refine wp_of e30 c30_131 (rw_iconst (pc' := 132) rfl ?_)
          refine wp_of e30 c30_132 (xp_Z (pc' := 135) lf_1_203 w9739 g9515 sh_35 (by decide) (by decide) ty_35_13 rfl rfl (by omega) (by omega) rfl (fun H9742 e9743 w9744 => ?_))
          have f9745 := f9741.put' e9743 g9515 rfl
          have k9746 : H9742 r9513 13 = 1 := wq_u_s e9743
          refine wp_of e30 c30_135 (rw_aload_n (pc' := 136) (v := .ref r1) rfl rfl rfl ?_)
          refine wp_of e30 c30_136 (rw_dup (pc' := 137) rfl rfl ?_)
          have k9747 : H9742 r1 10 = H r1 10 := ((wq_u_t e9743 g9515 g1 rfl 10).trans ((f9740 r1 10 _ g1 rfl).trans ((wq_u_t e9692 g9515 g1 rfl 10).trans ((f9686 r1 10 _ g1 rfl).trans (f9673 r1 10 _ g1 rfl)))))
          refine wp_of e30 c30_137 (xg_I (pc' := 140) lf_1_44 w9744 g1 sh_27 (by decide) (by decide) ty_27_10 rfl rfl (fun b9748 b9749 => ?_))
          refine wp_of e30 c30_140 (rw_iconst (pc' := 141) rfl ?_)
          refine wp_of e30 c30_141 (rw_iadd (pc' := 142) rfl ?_)
          refine wp_of e30 c30_142 (xp_I (pc' := 145) lf_1_44 w9744 g1 sh_27 (by decide) (by decide) ty_27_10 rfl rfl (by omega) (by omega) ⟨by omega, by omega⟩ rfl (fun H9750 e9751 w9752 => ?_))
          have f9753 := f9745.put' e9751 g1 rfl
          have k9754 : H9750 r1 10 = (H9742 r1 10) + 1 := wq_u_s e9751
          refine wp_of e30 c30_145 (rw_iconst (pc' := 146) rfl ?_)
          exact wp_zreturn e30 c30_146 rfl (by omega) ⟨rfl, w9752, f9753, 1, rfl, ⟨by omega, by omega⟩⟩
      · refine wp_of e30 c30_69 (rw_aload_n (pc' := 70) (v := .ref r0) rfl rfl rfl ?_)
        refine wp_of e30 c30_70 (xg_K (pc' := 73) lf_1_12 w9693 g0 sh_3 (by decide) (by decide) rfl q9700 rfl ?_)
        have k9755 : H9691 tk 0 = H9668 tk 0 := ((wq_u_t e9692 g9515 gtk rfl 0).trans (f9686 tk 0 _ gtk rfl))
        have q9756 : H9691 tk 0 = (rb : Int) := k9755.trans q9678
        refine wp_of e30 c30_73 (xc_V (pc' := 76) (r := tk) (as := []) (st := []) (lm_1_74) rfl rfl (Nat.le_of_ble_eq_true rfl) w9693 gtk sh_4 (by decide) rfl (by decide) (s_16 w9693 gtk q9756 grb) (fun R9757 T9758 H9759 p9760 => ?_))
        obtain ⟨e9761, w9763, f9764, e9762⟩ := p9760
        subst e9761
        subst e9762
        have f9765 := f9694.tr f9764 rfl
        show wp _ _ 30 76 [(2, .ref r9513), (0, .ref r0), (1, .ref r1)] [] _ H9759 _
        refine wp_of e30 c30_76 (rw_aload_n (pc' := 77) (v := .ref r0) rfl rfl rfl ?_)
        refine wp_of e30 c30_77 (rw_bipush (pc' := 79) (z := 23) rfl (by decide) ?_)
        refine wp_of e30 c30_79 (rw_iconst (pc' := 80) rfl ?_)
        refine wp_of e30 c30_80 (rw_bipush (pc' := 82) (z := 24) rfl (by decide) ?_)
        refine wp_of e30 c30_82 (rw_bipush (pc' := 84) (z := 24) rfl (by decide) ?_)
        have k9766 : H9759 r0 0 = H9691 r0 0 := (f9764 r0 0 _ g0 rfl)
        have q9767 : H9759 r0 0 = (tk : Int) := k9766.trans q9700
        have k9768 : H9759 tk 0 = H9691 tk 0 := (f9764 tk 0 _ gtk rfl)
        have q9769 : H9759 tk 0 = (rb : Int) := k9768.trans q9756
        refine wp_of e30 c30_84 (xc_V (pc' := 87) (r := r0) (as := [vI 23, vI 1, vI 24, vI 24]) (st := []) (lm_1_154) rfl rfl (Nat.le_of_ble_eq_true rfl) w9763 g0 sh_3 (by decide) rfl (by decide) (s_29 w9763 g0 ⟨by omega, by omega⟩ ⟨by omega, by omega⟩ ⟨by omega, by omega⟩ ⟨by omega, by omega⟩ q9767 gtk q9769 grb) (fun R9770 T9771 H9772 p9773 => ?_))
        obtain ⟨e9774, w9776, f9777, z9778, e9775, b9779⟩ := p9773
        subst e9774
        subst e9775
        have f9780 := f9765.tr f9777 rfl
        show wp _ _ 30 87 [(2, .ref r9513), (0, .ref r0), (1, .ref r1)] [vI z9778] _ H9772 _
        refine wp_of e30 c30_87 (rw_if_ne (p1 := 92) (p2 := 90) (by decide) rfl ⟨by omega, by omega⟩ (fun c9781 => ?_) (fun c9781 => ?_))
        · refine wp_of e30 c30_92 (rw_aload_n (pc' := 93) (v := .ref r9513) rfl rfl rfl ?_)
          refine wp_of e30 c30_93 (rw_aload_n (pc' := 94) (v := .ref r0) rfl rfl rfl ?_)
          refine wp_of e30 c30_94 (xg_I (pc' := 97) lf_1_158 w9776 g0 sh_3 (by decide) (by decide) ty_3_1 rfl rfl (fun b9782 b9783 => ?_))
          refine wp_of e30 c30_97 (rw_aload_n (pc' := 98) (v := .ref r0) rfl rfl rfl ?_)
          refine wp_of e30 c30_98 (xg_I (pc' := 101) lf_1_164 w9776 g0 sh_3 (by decide) (by decide) ty_3_2 rfl rfl (fun b9784 b9785 => ?_))
          refine wp_of e30 c30_101 (xc_S (pc' := 104) (as := [vI (H9772 r0 1), vI (H9772 r0 2)]) (st := [.ref r9513]) (lm_1_194) rfl rfl (Nat.le_of_ble_eq_true rfl) rfl (by decide) (s_31 w9776 ⟨by omega, by omega⟩ ⟨by omega, by omega⟩) (fun R9786 T9787 H9788 p9789 => ?_))
          obtain ⟨e9790, e9792, z9793, e9791, b9794⟩ := p9789
          subst e9790
          subst e9791
          subst e9792
          show wp _ _ 30 104 [(2, .ref r9513), (0, .ref r0), (1, .ref r1)] [vI z9793, .ref r9513] _ H9772 _
          refine wp_of e30 c30_104 (xp_I (pc' := 107) lf_1_197 w9776 g9515 sh_35 (by decide) (by decide) ty_35_12 rfl rfl (by omega) (by omega) ⟨by omega, by omega⟩ rfl (fun H9795 e9796 w9797 => ?_))
          have f9798 := f9780.put' e9796 g9515 rfl
          have k9799 : H9795 r9513 12 = z9793 := wq_u_s e9796
          refine wp_of e30 c30_107 (rw_aload_n (pc' := 108) (v := .ref r0) rfl rfl rfl ?_)
          have k9800 : H9795 r0 0 = H9759 r0 0 := ((wq_u_t e9796 g9515 g0 rfl 0).trans (f9777 r0 0 _ g0 rfl))
          have q9801 : H9795 r0 0 = (tk : Int) := k9800.trans q9767
          refine wp_of e30 c30_108 (xg_K (pc' := 111) lf_1_12 w9797 g0 sh_3 (by decide) (by decide) rfl q9801 rfl ?_)
          refine wp_of e30 c30_111 (rw_gs (pc' := 114) (k := 26) rfl rfl rfl rfl ?_)
          have k9802 : H9795 26 0 = ((42 : Nat) : Int) := (w9797.2 26 _ (w9797.1.2.2 10 (by decide))).2.2 0 (by decide) |> fun z => by have z1 : (42 : Int) ≤ H9795 26 0 ∧ H9795 26 0 ≤ 42 := z; omega
          refine wp_of e30 c30_114 (rw_getR (pc' := 117) (n := 2) (b := 42) (e := _) (lf_1_181).choose_spec.1 (lf_1_181).choose_spec.2.1 (w9797.sh (w9797.1.2.2 10 (by decide)) rfl) (by decide) rfl k9802 rfl ?_)
          refine wp_of e30 c30_117 (xc_V (pc' := 120) (r := tk) (as := [.ref 42]) (st := []) (lm_1_185) rfl rfl (Nat.le_of_ble_eq_true rfl) w9797 gtk sh_4 (by decide) rfl (by decide) (s_19 w9797 gtk rfl) (fun R9803 T9804 H9805 p9806 => ?_))
          obtain ⟨e9807, e9809, z9810, e9808, b9811⟩ := p9806
          subst e9807
          subst e9808
          subst e9809
          show wp _ _ 30 120 [(2, .ref r9513), (0, .ref r0), (1, .ref r1)] [vI z9810] _ H9795 _
          refine wp_of e30 c30_120 (rw_if_eq (p1 := 135) (p2 := 123) (by decide) rfl ⟨by omega, by omega⟩ (fun c9812 => ?_) (fun c9812 => ?_))
          · refine wp_of e30 c30_135 (rw_aload_n (pc' := 136) (v := .ref r1) rfl rfl rfl ?_)
            refine wp_of e30 c30_136 (rw_dup (pc' := 137) rfl rfl ?_)
            have k9813 : H9795 r1 10 = H r1 10 := ((wq_u_t e9796 g9515 g1 rfl 10).trans ((f9777 r1 10 _ g1 rfl).trans ((f9764 r1 10 _ g1 rfl).trans ((wq_u_t e9692 g9515 g1 rfl 10).trans ((f9686 r1 10 _ g1 rfl).trans (f9673 r1 10 _ g1 rfl))))))
            refine wp_of e30 c30_137 (xg_I (pc' := 140) lf_1_44 w9797 g1 sh_27 (by decide) (by decide) ty_27_10 rfl rfl (fun b9814 b9815 => ?_))
            refine wp_of e30 c30_140 (rw_iconst (pc' := 141) rfl ?_)
            refine wp_of e30 c30_141 (rw_iadd (pc' := 142) rfl ?_)
            refine wp_of e30 c30_142 (xp_I (pc' := 145) lf_1_44 w9797 g1 sh_27 (by decide) (by decide) ty_27_10 rfl rfl (by omega) (by omega) ⟨by omega, by omega⟩ rfl (fun H9816 e9817 w9818 => ?_))
            have f9819 := f9798.put' e9817 g1 rfl
            have k9820 : H9816 r1 10 = (H9795 r1 10) + 1 := wq_u_s e9817
            refine wp_of e30 c30_145 (rw_iconst (pc' := 146) rfl ?_)
            exact wp_zreturn e30 c30_146 rfl (by omega) ⟨rfl, w9818, f9819, 1, rfl, ⟨by omega, by omega⟩⟩
          · refine wp_of e30 c30_123 (rw_aload_n (pc' := 124) (v := .ref r0) rfl rfl rfl ?_)
            refine wp_of e30 c30_124 (xg_K (pc' := 127) lf_1_12 w9797 g0 sh_3 (by decide) (by decide) rfl q9801 rfl ?_)
            have k9821 : H9795 tk 0 = H9759 tk 0 := ((wq_u_t e9796 g9515 gtk rfl 0).trans (f9777 tk 0 _ gtk rfl))
            have q9822 : H9795 tk 0 = (rb : Int) := k9821.trans q9769
            refine wp_of e30 c30_127 (xc_V (pc' := 130) (r := tk) (as := []) (st := []) (lm_1_74) rfl rfl (Nat.le_of_ble_eq_true rfl) w9797 gtk sh_4 (by decide) rfl (by decide) (s_16 w9797 gtk q9822 grb) (fun R9823 T9824 H9825 p9826 => ?_))
            obtain ⟨e9827, w9829, f9830, e9828⟩ := p9826
            subst e9827
            subst e9828
            have f9831 := f9798.tr f9830 rfl
            show wp _ _ 30 130 [(2, .ref r9513), (0, .ref r0), (1, .ref r1)] [] _ H9825 _
            refine wp_of e30 c30_130 (rw_aload_n (pc' := 131) (v := .ref r9513) rfl rfl rfl ?_)
            refine wp_of e30 c30_131 (rw_iconst (pc' := 132) rfl ?_)
            refine wp_of e30 c30_132 (xp_Z (pc' := 135) lf_1_203 w9829 g9515 sh_35 (by decide) (by decide) ty_35_13 rfl rfl (by omega) (by omega) rfl (fun H9832 e9833 w9834 => ?_))
            have f9835 := f9831.put' e9833 g9515 rfl
            have k9836 : H9832 r9513 13 = 1 := wq_u_s e9833
            refine wp_of e30 c30_135 (rw_aload_n (pc' := 136) (v := .ref r1) rfl rfl rfl ?_)
            refine wp_of e30 c30_136 (rw_dup (pc' := 137) rfl rfl ?_)
            have k9837 : H9832 r1 10 = H r1 10 := ((wq_u_t e9833 g9515 g1 rfl 10).trans ((f9830 r1 10 _ g1 rfl).trans ((wq_u_t e9796 g9515 g1 rfl 10).trans ((f9777 r1 10 _ g1 rfl).trans ((f9764 r1 10 _ g1 rfl).trans ((wq_u_t e9692 g9515 g1 rfl 10).trans ((f9686 r1 10 _ g1 rfl).trans (f9673 r1 10 _ g1 rfl))))))))
            refine wp_of e30 c30_137 (xg_I (pc' := 140) lf_1_44 w9834 g1 sh_27 (by decide) (by decide) ty_27_10 rfl rfl (fun b9838 b9839 => ?_))
            refine wp_of e30 c30_140 (rw_iconst (pc' := 141) rfl ?_)
            refine wp_of e30 c30_141 (rw_iadd (pc' := 142) rfl ?_)
            refine wp_of e30 c30_142 (xp_I (pc' := 145) lf_1_44 w9834 g1 sh_27 (by decide) (by decide) ty_27_10 rfl rfl (by omega) (by omega) ⟨by omega, by omega⟩ rfl (fun H9840 e9841 w9842 => ?_))
            have f9843 := f9835.put' e9841 g1 rfl
            have k9844 : H9840 r1 10 = (H9832 r1 10) + 1 := wq_u_s e9841
            refine wp_of e30 c30_145 (rw_iconst (pc' := 146) rfl ?_)
            exact wp_zreturn e30 c30_146 rfl (by omega) ⟨rfl, w9842, f9843, 1, rfl, ⟨by omega, by omega⟩⟩
        · refine wp_of e30 c30_90 (rw_iconst (pc' := 91) rfl ?_)
          exact wp_zreturn e30 c30_91 rfl (by omega) ⟨rfl, w9776, f9780, 0, rfl, ⟨by omega, by omega⟩⟩
    · refine wp_of e30 c30_51 (rw_iconst (pc' := 52) rfl ?_)
      exact wp_zreturn e30 c30_52 rfl (by omega) ⟨rfl, w9693, f9694, 0, rfl, ⟨by omega, by omega⟩⟩
