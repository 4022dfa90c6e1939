/-! methods of the reference (own work, written by wip/gen2/sx.py) -/
/-! StrikeAwakeModel.isWord(Ljava/lang/String;)Z -/
theorem e178 : wq_en 178 = some (9, 2, false, some FieldType.boolean) := rfl
theorem c178_0 : mc_cd 178 0 = some (.aload_n 0, 1) := by decide +kernel
theorem c178_1 : mc_cd 178 1 = some (.getfield 75, 3) := by decide +kernel
theorem c178_4 : mc_cd 178 4 = some (.iconst 2, 1) := by decide +kernel
theorem c178_5 : mc_cd 178 5 = some (.if_icmp .ne 19, 3) := by decide +kernel
theorem c178_8 : mc_cd 178 8 = some (.aload_n 0, 1) := by decide +kernel
theorem c178_9 : mc_cd 178 9 = some (.getfield 94, 3) := by decide +kernel
theorem c178_12 : mc_cd 178 12 = some (.aload_n 1, 1) := by decide +kernel
theorem c178_13 : mc_cd 178 13 = some (.invokestatic 110, 3) := by decide +kernel
theorem c178_16 : mc_cd 178 16 = some (.lcmp, 1) := by decide +kernel
theorem c178_17 : mc_cd 178 17 = some (.ifCond .ne 7, 3) := by decide +kernel
theorem c178_20 : mc_cd 178 20 = some (.iconst 1, 1) := by decide +kernel
theorem c178_21 : mc_cd 178 21 = some (.goto 4, 3) := by decide +kernel
theorem c178_24 : mc_cd 178 24 = some (.iconst 0, 1) := by decide +kernel
theorem c178_25 : mc_cd 178 25 = some (.ireturn, 1) := by decide +kernel
abbrev q_178 (r0 : Nat) (s1 : Nat) (T : wq_T) (H : wq_H) : Option Value → wq_T → wq_H → Prop := fun r T' H' => T = T' ∧ H = H' ∧ ∃ z : Int, some (vI z) = r ∧ (0 ≤ z ∧ z ≤ 1)
set_option maxHeartbeats 4000000 in
theorem s_178 {kt : Nat → Option mc_E} {T : wq_T} {H : wq_H} {r0 : Nat} {s1 : Nat} {t1 : List Int32} (hW : WT T H) (g0 : T.2.2.2 r0 = some 42) (h1 : mc_find mc_sb s1 = some t1) : wpc kt 2 178 [.ref r0, .ref s1] T H (q_178 r0 s1 T H) := by
  refine wp_enter e178 (Nat.le_of_ble_eq_true rfl) rfl ?_
  show wp _ _ 178 0 [(0, .ref r0), (1, .ref s1)] [] _ H _
  refine wp_of e178 c178_0 (rw_aload_n (pc' := 1) (v := .ref r0) rfl rfl rfl ?_)
  refine wp_of e178 c178_1 (xg_I (pc' := 4) lf_9_75 hW g0 sh_42 (by decide) (by decide) ty_42_9 rfl rfl (fun b85079 b85080 => ?_))
  refine wp_of e178 c178_4 (rw_iconst (pc' := 5) rfl ?_)
  refine wp_of e178 c178_5 (rw_icmp_ne (p1 := 24) (p2 := 8) (by decide) rfl ⟨by omega, by omega⟩ ⟨by omega, by omega⟩ (fun c85081 => ?_) (fun c85081 => ?_))
  · refine wp_of e178 c178_24 (rw_iconst (pc' := 25) rfl ?_)
    exact wp_zreturn e178 c178_25 rfl (by omega) ⟨rfl, rfl, 0, rfl, ⟨by omega, by omega⟩⟩
  · refine wp_of e178 c178_8 (rw_aload_n (pc' := 9) (v := .ref r0) rfl rfl rfl ?_)
    refine wp_of e178 c178_9 (xg_L (pc' := 12) lf_9_94 hW g0 sh_42 (by decide) (by decide) ty_42_15 rfl rfl (fun b85082 b85083 => ?_))
    refine wp_of e178 c178_12 (rw_aload_n (pc' := 13) (v := .ref s1) rfl rfl rfl ?_)
    refine wp_of e178 c178_13 (xc_S (pc' := 16) (as := [.ref s1]) (st := [vL (H r0 15)]) (lm_9_110) rfl rfl (Nat.le_of_ble_eq_true rfl) rfl (by decide) (s_179 hW h1) (fun R85084 T85085 H85086 p85087 => ?_))
    obtain ⟨e85088, e85090, z85091, e85089, b85092⟩ := p85087
    subst e85088
    subst e85089
    subst e85090
    show wp _ _ 178 16 [(0, .ref r0), (1, .ref s1)] [vL z85091, vL (H r0 15)] _ H _
    refine wp_of e178 c178_16 (rw_lcmp (pc' := 17) rfl ⟨by omega, by omega⟩ ⟨by omega, by omega⟩ ?_)
    have b85093 := wq_cmp_b (H r0 15) z85091
    refine wp_of e178 c178_17 (rw_if_ne (p1 := 24) (p2 := 20) (by decide) rfl ⟨by omega, by omega⟩ (fun c85094 => ?_) (fun c85094 => ?_))
    · refine wp_of e178 c178_24 (rw_iconst (pc' := 25) rfl ?_)
      exact wp_zreturn e178 c178_25 rfl (by omega) ⟨rfl, rfl, 0, rfl, ⟨by omega, by omega⟩⟩
    · refine wp_of e178 c178_20 (rw_iconst (pc' := 21) rfl ?_)
      refine wp_of e178 c178_21 (rw_goto (p1 := 25) (by decide) ?_)
      exact wp_zreturn e178 c178_25 rfl (by omega) ⟨rfl, rfl, 1, rfl, ⟨by omega, by omega⟩⟩
/-! StrikeAwakeModel.wrong(I)V -/
theorem e181 : wq_en 181 = some (9, 2, false, none) := rfl
theorem c181_0 : mc_cd 181 0 = some (.aload_n 0, 1) := by decide +kernel
theorem c181_1 : mc_cd 181 1 = some (.getfield 75, 3) := by decide +kernel
theorem c181_4 : mc_cd 181 4 = some (.iconst 5, 1) := by decide +kernel
theorem c181_5 : mc_cd 181 5 = some (.if_icmp .ne 4, 3) := by decide +kernel
theorem c181_8 : mc_cd 181 8 = some (.return_, 1) := by decide +kernel
theorem c181_9 : mc_cd 181 9 = some (.aload_n 0, 1) := by decide +kernel
theorem c181_10 : mc_cd 181 10 = some (.iload_n 1, 1) := by decide +kernel
theorem c181_11 : mc_cd 181 11 = some (.putfield 104, 3) := by decide +kernel
theorem c181_14 : mc_cd 181 14 = some (.aload_n 0, 1) := by decide +kernel
theorem c181_15 : mc_cd 181 15 = some (.aload_n 0, 1) := by decide +kernel
theorem c181_16 : mc_cd 181 16 = some (.getfield 84, 3) := by decide +kernel
theorem c181_19 : mc_cd 181 19 = some (.putfield 107, 3) := by decide +kernel
theorem c181_22 : mc_cd 181 22 = some (.aload_n 0, 1) := by decide +kernel
theorem c181_23 : mc_cd 181 23 = some (.iconst 5, 1) := by decide +kernel
theorem c181_24 : mc_cd 181 24 = some (.putfield 75, 3) := by decide +kernel
theorem c181_27 : mc_cd 181 27 = some (.return_, 1) := by decide +kernel
abbrev q_181 (r0 : Nat) (a1 : Int) (T : wq_T) (H : wq_H) : Option Value → wq_T → wq_H → Prop := fun r T' H' => T = T' ∧ WT T H' ∧ wfr [(42, 9), (42, 13), (42, 14)] T H H' ∧ none = r ∧ (wJ H' r0 = 1) ∧ (H r0 10 ≤ H' r0 10) ∧ (wOV H r0 ≤ wOV H' r0) ∧ (wOV H' r0 ≤ 1) ∧ (H' r0 9 = 5) ∧ (wOV H' r0 = 1)
set_option maxHeartbeats 4000000 in
theorem s_181 {kt : Nat → Option mc_E} {T : wq_T} {H : wq_H} {r0 : Nat} {a1 : Int} (hW : WT T H) (g0 : T.2.2.2 r0 = some 42) (i1 : (-2147483648) ≤ a1 ∧ a1 ≤ 2147483647) (p0 : wJ H r0 = 1) : wpc kt 1 181 [.ref r0, vI a1] T H (q_181 r0 a1 T H) := by
  refine wp_enter e181 (Nat.le_of_ble_eq_true rfl) rfl ?_
  have f0 : wfr [(42, 9), (42, 13), (42, 14)] T H H := wfr.rf
  show wp _ _ 181 0 [(0, .ref r0), (1, vI a1)] [] _ H _
  have hb0 := wOV_b (H := H) (m := r0)
  have hj := wJ_1.mp p0
  have ho := wOV_e (H := H) (m := r0)
  refine wp_of e181 c181_0 (rw_aload_n (pc' := 1) (v := .ref r0) rfl rfl rfl ?_)
  refine wp_of e181 c181_1 (xg_I (pc' := 4) lf_9_75 hW g0 sh_42 (by decide) (by decide) ty_42_9 rfl rfl (fun b85121 b85122 => ?_))
  have k85123 := wOV_e (H := H) (m := r0)
  refine wp_of e181 c181_4 (rw_iconst (pc' := 5) rfl ?_)
  refine wp_of e181 c181_5 (rw_icmp_ne (p1 := 9) (p2 := 8) (by decide) rfl ⟨by omega, by omega⟩ ⟨by omega, by omega⟩ (fun c85124 => ?_) (fun c85124 => ?_))
  · refine wp_of e181 c181_9 (rw_aload_n (pc' := 10) (v := .ref r0) rfl rfl rfl ?_)
    refine wp_of e181 c181_10 (rw_iload_n (pc' := 11) (z := a1) rfl rfl ?_)
    refine wp_of e181 c181_11 (xp_I (pc' := 14) lf_9_104 hW g0 sh_42 (by decide) (by decide) ty_42_13 rfl rfl (by omega) (by omega) ⟨by omega, by omega⟩ rfl (fun H85125 e85126 w85127 => ?_))
    have f85128 := f0.put' e85126 g0 rfl
    have k85129 : H85125 r0 13 = a1 := wq_u_s e85126
    refine wp_of e181 c181_14 (rw_aload_n (pc' := 15) (v := .ref r0) rfl rfl rfl ?_)
    refine wp_of e181 c181_15 (rw_aload_n (pc' := 16) (v := .ref r0) rfl rfl rfl ?_)
    have k85130 : H85125 r0 10 = H r0 10 := (wq_u_j e85126 rfl)
    refine wp_of e181 c181_16 (xg_I (pc' := 19) lf_9_84 w85127 g0 sh_42 (by decide) (by decide) ty_42_10 rfl rfl (fun b85131 b85132 => ?_))
    refine wp_of e181 c181_19 (xp_I (pc' := 22) lf_9_107 w85127 g0 sh_42 (by decide) (by decide) ty_42_14 rfl rfl (by omega) (by omega) ⟨by omega, by omega⟩ rfl (fun H85133 e85134 w85135 => ?_))
    have f85136 := f85128.put' e85134 g0 rfl
    have k85137 : H85133 r0 14 = H85125 r0 10 := wq_u_s e85134
    refine wp_of e181 c181_22 (rw_aload_n (pc' := 23) (v := .ref r0) rfl rfl rfl ?_)
    refine wp_of e181 c181_23 (rw_iconst (pc' := 24) rfl ?_)
    refine wp_of e181 c181_24 (xp_I (pc' := 27) lf_9_75 w85135 g0 sh_42 (by decide) (by decide) ty_42_9 rfl rfl (by omega) (by omega) ⟨by omega, by omega⟩ rfl (fun H85138 e85139 w85140 => ?_))
    have f85141 := f85136.put' e85139 g0 rfl
    have k85142 : H85138 r0 9 = 5 := wq_u_s e85139
    have k85143 : H85138 r0 8 = H r0 8 := ((wq_u_j e85139 rfl).trans ((wq_u_j e85134 rfl).trans (wq_u_j e85126 rfl)))
    have k85144 : H85138 r0 10 = H85125 r0 10 := ((wq_u_j e85139 rfl).trans (wq_u_j e85134 rfl))
    have k85145 := wOV_e (H := H85138) (m := r0)
    have k85146 : wJ H85138 r0 = 1 := wJ_1.mpr ⟨by omega, by omega⟩
    exact wp_return e181 c181_27 rfl ⟨rfl, w85140, f85141, rfl, by omega, by omega, by omega, by omega, by omega, by omega⟩
  · exact wp_return e181 c181_8 rfl ⟨rfl, hW, f0, rfl, by omega, by omega, by omega, by omega, by omega, by omega⟩
/-! StrikeAwakeModel.needs(Ljava/lang/String;)V -/
theorem e183 : wq_en 183 = some (9, 2, false, none) := rfl
theorem c183_0 : mc_cd 183 0 = some (.aload_n 0, 1) := by decide +kernel
theorem c183_1 : mc_cd 183 1 = some (.aload_n 1, 1) := by decide +kernel
theorem c183_2 : mc_cd 183 2 = some (.invokevirtual 114, 3) := by decide +kernel
theorem c183_5 : mc_cd 183 5 = some (.ifCond .ne 8, 3) := by decide +kernel
theorem c183_8 : mc_cd 183 8 = some (.aload_n 0, 1) := by decide +kernel
theorem c183_9 : mc_cd 183 9 = some (.iconst 1, 1) := by decide +kernel
theorem c183_10 : mc_cd 183 10 = some (.invokevirtual 121, 3) := by decide +kernel
theorem c183_13 : mc_cd 183 13 = some (.aload_n 0, 1) := by decide +kernel
theorem c183_14 : mc_cd 183 14 = some (.invokevirtual 118, 3) := by decide +kernel
theorem c183_17 : mc_cd 183 17 = some (.return_, 1) := by decide +kernel
abbrev q_183 (r0 : Nat) (s1 : Nat) (T : wq_T) (H : wq_H) : Option Value → wq_T → wq_H → Prop := fun r T' H' => T = T' ∧ WT T H' ∧ wfr [(42, 8), (42, 9), (42, 10), (42, 11), (42, 12), (42, 13), (42, 14), (42, 15)] T H H' ∧ none = r ∧ (wJ H' r0 = 1) ∧ (H r0 10 ≤ H' r0 10) ∧ (wOV H r0 ≤ wOV H' r0) ∧ (wOV H' r0 ≤ 1)
set_option maxHeartbeats 4000000 in
theorem s_183 {kt : Nat → Option mc_E} {T : wq_T} {H : wq_H} {r0 : Nat} {s1 : Nat} {t1 : List Int32} (hW : WT T H) (g0 : T.2.2.2 r0 = some 42) (h1 : mc_find mc_sb s1 = some t1) (p0 : wJ H r0 = 1) : wpc kt 3 183 [.ref r0, .ref s1] T H (q_183 r0 s1 T H) := by
  refine wp_enter e183 (Nat.le_of_ble_eq_true rfl) rfl ?_
  have f0 : wfr [(42, 8), (42, 9), (42, 10), (42, 11), (42, 12), (42, 13), (42, 14), (42, 15)] T H H := wfr.rf
  show wp _ _ 183 0 [(0, .ref r0), (1, .ref s1)] [] _ H _
  have hb0 := wOV_b (H := H) (m := r0)
  refine wp_of e183 c183_0 (rw_aload_n (pc' := 1) (v := .ref r0) rfl rfl rfl ?_)
  refine wp_of e183 c183_1 (rw_aload_n (pc' := 2) (v := .ref s1) rfl rfl rfl ?_)
  refine wp_of e183 c183_2 (xc_V (pc' := 5) (r := r0) (as := [.ref s1]) (st := []) (lm_9_114) rfl rfl (Nat.le_of_ble_eq_true rfl) hW g0 sh_42 (by decide) rfl (by decide) (s_178 hW g0 h1) (fun R85202 T85203 H85204 p85205 => ?_))
  obtain ⟨e85206, e85208, z85209, e85207, b85210⟩ := p85205
  subst e85206
  subst e85207
  subst e85208
  show wp _ _ 183 5 [(0, .ref r0), (1, .ref s1)] [vI z85209] _ H _
  refine wp_of e183 c183_5 (rw_if_ne (p1 := 13) (p2 := 8) (by decide) rfl ⟨by omega, by omega⟩ (fun c85211 => ?_) (fun c85211 => ?_))
  · refine wp_of e183 c183_13 (rw_aload_n (pc' := 14) (v := .ref r0) rfl rfl rfl ?_)
    refine wp_of e183 c183_14 (xc_V (pc' := 17) (r := r0) (as := []) (st := []) (lm_9_118) rfl rfl (Nat.le_of_ble_eq_true rfl) hW g0 sh_42 (by decide) rfl (by decide) (s_172 hW g0 (by omega)) (fun R85212 T85213 H85214 p85215 => ?_))
    obtain ⟨e85216, w85218, f85219, e85217, p85220, p85221, p85222, p85223, p85224, p85225⟩ := p85215
    subst e85216
    subst e85217
    have f85226 := f0.tr f85219 rfl
    show wp _ _ 183 17 [(0, .ref r0), (1, .ref s1)] [] _ H85214 _
    exact wp_return e183 c183_17 rfl ⟨rfl, w85218, f85226, rfl, by omega, by omega, by omega, by omega⟩
  · refine wp_of e183 c183_8 (rw_aload_n (pc' := 9) (v := .ref r0) rfl rfl rfl ?_)
    refine wp_of e183 c183_9 (rw_iconst (pc' := 10) rfl ?_)
    refine wp_of e183 c183_10 (xc_V (pc' := 13) (r := r0) (as := [vI 1]) (st := []) (lm_9_121) rfl rfl (Nat.le_of_ble_eq_true rfl) hW g0 sh_42 (by decide) rfl (by decide) (s_181 hW g0 ⟨by omega, by omega⟩ (by omega)) (fun R85227 T85228 H85229 p85230 => ?_))
    obtain ⟨e85231, w85233, f85234, e85232, p85235, p85236, p85237, p85238, p85239, p85240⟩ := p85230
    subst e85231
    subst e85232
    have f85241 := f0.tr f85234 rfl
    show wp _ _ 183 13 [(0, .ref r0), (1, .ref s1)] [] _ H85229 _
    refine wp_of e183 c183_13 (rw_aload_n (pc' := 14) (v := .ref r0) rfl rfl rfl ?_)
    refine wp_of e183 c183_14 (xc_V (pc' := 17) (r := r0) (as := []) (st := []) (lm_9_118) rfl rfl (Nat.le_of_ble_eq_true rfl) w85233 g0 sh_42 (by decide) rfl (by decide) (s_172 w85233 g0 (by omega)) (fun R85242 T85243 H85244 p85245 => ?_))
    obtain ⟨e85246, w85248, f85249, e85247, p85250, p85251, p85252, p85253, p85254, p85255⟩ := p85245
    subst e85246
    subst e85247
    have f85256 := f85241.tr f85249 rfl
    show wp _ _ 183 17 [(0, .ref r0), (1, .ref s1)] [] _ H85244 _
    exact wp_return e183 c183_17 rfl ⟨rfl, w85248, f85256, rfl, by omega, by omega, by omega, by omega⟩
/-! StrikeAwakeModel.in(III)Z -/
theorem e186 : wq_en 186 = some (9, 3, false, some FieldType.boolean) := rfl
theorem c186_0 : mc_cd 186 0 = some (.iload_n 0, 1) := by decide +kernel
theorem c186_1 : mc_cd 186 1 = some (.iload_n 1, 1) := by decide +kernel
theorem c186_2 : mc_cd 186 2 = some (.if_icmp .lt 12, 3) := by decide +kernel
theorem c186_5 : mc_cd 186 5 = some (.iload_n 0, 1) := by decide +kernel
theorem c186_6 : mc_cd 186 6 = some (.iload_n 2, 1) := by decide +kernel
theorem c186_7 : mc_cd 186 7 = some (.if_icmp .gt 7, 3) := by decide +kernel
theorem c186_10 : mc_cd 186 10 = some (.iconst 1, 1) := by decide +kernel
theorem c186_11 : mc_cd 186 11 = some (.goto 4, 3) := by decide +kernel
theorem c186_14 : mc_cd 186 14 = some (.iconst 0, 1) := by decide +kernel
theorem c186_15 : mc_cd 186 15 = some (.ireturn, 1) := by decide +kernel
abbrev q_186 (a0 : Int) (a1 : Int) (a2 : Int) (T : wq_T) (H : wq_H) : Option Value → wq_T → wq_H → Prop := fun r T' H' => T = T' ∧ H = H' ∧ ∃ z : Int, some (vI z) = r ∧ (0 ≤ z ∧ z ≤ 1) ∧ (z = 0 ∨ (a1 ≤ a0 ∧ a0 ≤ a2))
set_option maxHeartbeats 4000000 in
theorem s_186 {kt : Nat → Option mc_E} {T : wq_T} {H : wq_H} {a0 : Int} {a1 : Int} {a2 : Int} (hW : WT T H) (i0 : (-2147483648) ≤ a0 ∧ a0 ≤ 2147483647) (i1 : (-2147483648) ≤ a1 ∧ a1 ≤ 2147483647) (i2 : (-2147483648) ≤ a2 ∧ a2 ≤ 2147483647) : wpc kt 1 186 [vI a0, vI a1, vI a2] T H (q_186 a0 a1 a2 T H) := by
  refine wp_enter e186 (Nat.le_of_ble_eq_true rfl) rfl ?_
  show wp _ _ 186 0 [(0, vI a0), (1, vI a1), (2, vI a2)] [] _ H _
  refine wp_of e186 c186_0 (rw_iload_n (pc' := 1) (z := a0) rfl rfl ?_)
  refine wp_of e186 c186_1 (rw_iload_n (pc' := 2) (z := a1) rfl rfl ?_)
  refine wp_of e186 c186_2 (rw_icmp_lt (p1 := 14) (p2 := 5) (by decide) rfl ⟨by omega, by omega⟩ ⟨by omega, by omega⟩ (fun c85259 => ?_) (fun c85259 => ?_))
  · refine wp_of e186 c186_14 (rw_iconst (pc' := 15) rfl ?_)
    exact wp_zreturn e186 c186_15 rfl (by omega) ⟨rfl, rfl, 0, rfl, ⟨by omega, by omega⟩, by omega⟩
  · refine wp_of e186 c186_5 (rw_iload_n (pc' := 6) (z := a0) rfl rfl ?_)
    refine wp_of e186 c186_6 (rw_iload_n (pc' := 7) (z := a2) rfl rfl ?_)
    refine wp_of e186 c186_7 (rw_icmp_gt (p1 := 14) (p2 := 10) (by decide) rfl ⟨by omega, by omega⟩ ⟨by omega, by omega⟩ (fun c85260 => ?_) (fun c85260 => ?_))
    · refine wp_of e186 c186_14 (rw_iconst (pc' := 15) rfl ?_)
      exact wp_zreturn e186 c186_15 rfl (by omega) ⟨rfl, rfl, 0, rfl, ⟨by omega, by omega⟩, by omega⟩
    · refine wp_of e186 c186_10 (rw_iconst (pc' := 11) rfl ?_)
      refine wp_of e186 c186_11 (rw_goto (p1 := 15) (by decide) ?_)
      exact wp_zreturn e186 c186_15 rfl (by omega) ⟨rfl, rfl, 1, rfl, ⟨by omega, by omega⟩, by omega⟩
/-! StrikeAwakeModel.whole(II)I -/
theorem e185 : wq_en 185 = some (9, 3, false, some FieldType.int) := rfl
theorem c185_0 : mc_cd 185 0 = some (.aload_n 0, 1) := by decide +kernel
theorem c185_1 : mc_cd 185 1 = some (.getfield 75, 3) := by decide +kernel
theorem c185_4 : mc_cd 185 4 = some (.iconst 3, 1) := by decide +kernel
theorem c185_5 : mc_cd 185 5 = some (.if_icmp .eq 11, 3) := by decide +kernel
theorem c185_8 : mc_cd 185 8 = some (.aload_n 0, 1) := by decide +kernel
theorem c185_9 : mc_cd 185 9 = some (.iconst 1, 1) := by decide +kernel
theorem c185_10 : mc_cd 185 10 = some (.invokevirtual 121, 3) := by decide +kernel
theorem c185_13 : mc_cd 185 13 = some (.goto 20, 3) := by decide +kernel
theorem c185_16 : mc_cd 185 16 = some (.aload_n 0, 1) := by decide +kernel
theorem c185_17 : mc_cd 185 17 = some (.getfield 101, 3) := by decide +kernel
theorem c185_20 : mc_cd 185 20 = some (.iload_n 1, 1) := by decide +kernel
theorem c185_21 : mc_cd 185 21 = some (.iload_n 2, 1) := by decide +kernel
theorem c185_22 : mc_cd 185 22 = some (.invokestatic 125, 3) := by decide +kernel
theorem c185_25 : mc_cd 185 25 = some (.ifCond .ne 8, 3) := by decide +kernel
theorem c185_28 : mc_cd 185 28 = some (.aload_n 0, 1) := by decide +kernel
theorem c185_29 : mc_cd 185 29 = some (.iconst 4, 1) := by decide +kernel
theorem c185_30 : mc_cd 185 30 = some (.invokevirtual 121, 3) := by decide +kernel
theorem c185_33 : mc_cd 185 33 = some (.aload_n 0, 1) := by decide +kernel
theorem c185_34 : mc_cd 185 34 = some (.getfield 75, 3) := by decide +kernel
theorem c185_37 : mc_cd 185 37 = some (.iconst 5, 1) := by decide +kernel
theorem c185_38 : mc_cd 185 38 = some (.if_icmp .ne 7, 3) := by decide +kernel
theorem c185_41 : mc_cd 185 41 = some (.iconst 0, 1) := by decide +kernel
theorem c185_42 : mc_cd 185 42 = some (.goto 7, 3) := by decide +kernel
theorem c185_45 : mc_cd 185 45 = some (.aload_n 0, 1) := by decide +kernel
theorem c185_46 : mc_cd 185 46 = some (.getfield 101, 3) := by decide +kernel
theorem c185_49 : mc_cd 185 49 = some (.ireturn, 1) := by decide +kernel
abbrev q_185 (r0 : Nat) (a1 : Int) (a2 : Int) (T : wq_T) (H : wq_H) : Option Value → wq_T → wq_H → Prop := fun r T' H' => T = T' ∧ WT T H' ∧ wfr [(42, 9), (42, 13), (42, 14)] T H H' ∧ ∃ z : Int, some (vI z) = r ∧ (0 ≤ z ∧ z ≤ 100) ∧ (wJ H' r0 = 1) ∧ (H r0 10 ≤ H' r0 10) ∧ (wOV H r0 ≤ wOV H' r0) ∧ (wOV H' r0 ≤ 1) ∧ (z = 0 ∨ (a1 ≤ z ∧ z ≤ a2))
set_option maxHeartbeats 4000000 in
theorem s_185 {kt : Nat → Option mc_E} {T : wq_T} {H : wq_H} {r0 : Nat} {a1 : Int} {a2 : Int} (hW : WT T H) (g0 : T.2.2.2 r0 = some 42) (i1 : 0 ≤ a1 ∧ a1 ≤ 100) (i2 : 0 ≤ a2 ∧ a2 ≤ 100) (p0 : wJ H r0 = 1) : wpc kt 2 185 [.ref r0, vI a1, vI a2] T H (q_185 r0 a1 a2 T H) := by
  refine wp_enter e185 (Nat.le_of_ble_eq_true rfl) rfl ?_
  have f0 : wfr [(42, 9), (42, 13), (42, 14)] T H H := wfr.rf
  show wp _ _ 185 0 [(0, .ref r0), (1, vI a1), (2, vI a2)] [] _ H _
  have hb0 := wOV_b (H := H) (m := r0)
  refine wp_of e185 c185_0 (rw_aload_n (pc' := 1) (v := .ref r0) rfl rfl rfl ?_)
  refine wp_of e185 c185_1 (xg_I (pc' := 4) lf_9_75 hW g0 sh_42 (by decide) (by decide) ty_42_9 rfl rfl (fun b85331 b85332 => ?_))
  have k85333 := wOV_e (H := H) (m := r0)
  refine wp_of e185 c185_4 (rw_iconst (pc' := 5) rfl ?_)
  refine wp_of e185 c185_5 (rw_icmp_eq (p1 := 16) (p2 := 8) (by decide) rfl ⟨by omega, by omega⟩ ⟨by omega, by omega⟩ (fun c85334 => ?_) (fun c85334 => ?_))
  · refine wp_of e185 c185_16 (rw_aload_n (pc' := 17) (v := .ref r0) rfl rfl rfl ?_)
    refine wp_of e185 c185_17 (xg_I (pc' := 20) lf_9_101 hW g0 sh_42 (by decide) (by decide) ty_42_12 rfl rfl (fun b85335 b85336 => ?_))
    refine wp_of e185 c185_20 (rw_iload_n (pc' := 21) (z := a1) rfl rfl ?_)
    refine wp_of e185 c185_21 (rw_iload_n (pc' := 22) (z := a2) rfl rfl ?_)
    refine wp_of e185 c185_22 (xc_S (pc' := 25) (as := [vI (H r0 12), vI a1, vI a2]) (st := []) (lm_9_125) rfl rfl (Nat.le_of_ble_eq_true rfl) rfl (by decide) (s_186 hW ⟨by omega, by omega⟩ ⟨by omega, by omega⟩ ⟨by omega, by omega⟩) (fun R85337 T85338 H85339 p85340 => ?_))
    obtain ⟨e85341, e85343, z85345, e85342, b85346, p85344⟩ := p85340
    subst e85341
    subst e85342
    subst e85343
    show wp _ _ 185 25 [(0, .ref r0), (1, vI a1), (2, vI a2)] [vI z85345] _ H _
    refine wp_of e185 c185_25 (rw_if_ne (p1 := 33) (p2 := 28) (by decide) rfl ⟨by omega, by omega⟩ (fun c85347 => ?_) (fun c85347 => ?_))
    · refine wp_of e185 c185_33 (rw_aload_n (pc' := 34) (v := .ref r0) rfl rfl rfl ?_)
      refine wp_of e185 c185_34 (xg_I (pc' := 37) lf_9_75 hW g0 sh_42 (by decide) (by decide) ty_42_9 rfl rfl (fun b85348 b85349 => ?_))
      have k85350 := wOV_e (H := H) (m := r0)
      refine wp_of e185 c185_37 (rw_iconst (pc' := 38) rfl ?_)
      refine wp_of e185 c185_38 (rw_icmp_ne (p1 := 45) (p2 := 41) (by decide) rfl ⟨by omega, by omega⟩ ⟨by omega, by omega⟩ (fun c85351 => ?_) (fun c85351 => ?_))
      · refine wp_of e185 c185_45 (rw_aload_n (pc' := 46) (v := .ref r0) rfl rfl rfl ?_)
        refine wp_of e185 c185_46 (xg_I (pc' := 49) lf_9_101 hW g0 sh_42 (by decide) (by decide) ty_42_12 rfl rfl (fun b85352 b85353 => ?_))
        exact wp_ireturn e185 c185_49 rfl ⟨rfl, hW, f0, H r0 12, rfl, ⟨by omega, by omega⟩, by omega, by omega, by omega, by omega, by omega⟩
      · exfalso
        omega
    · refine wp_of e185 c185_28 (rw_aload_n (pc' := 29) (v := .ref r0) rfl rfl rfl ?_)
      refine wp_of e185 c185_29 (rw_iconst (pc' := 30) rfl ?_)
      refine wp_of e185 c185_30 (xc_V (pc' := 33) (r := r0) (as := [vI 4]) (st := []) (lm_9_121) rfl rfl (Nat.le_of_ble_eq_true rfl) hW g0 sh_42 (by decide) rfl (by decide) (s_181 hW g0 ⟨by omega, by omega⟩ (by omega)) (fun R85354 T85355 H85356 p85357 => ?_))
      obtain ⟨e85358, w85360, f85361, e85359, p85362, p85363, p85364, p85365, p85366, p85367⟩ := p85357
      subst e85358
      subst e85359
      have f85368 := f0.tr f85361 rfl
      show wp _ _ 185 33 [(0, .ref r0), (1, vI a1), (2, vI a2)] [] _ H85356 _
      refine wp_of e185 c185_33 (rw_aload_n (pc' := 34) (v := .ref r0) rfl rfl rfl ?_)
      refine wp_of e185 c185_34 (xg_I (pc' := 37) lf_9_75 w85360 g0 sh_42 (by decide) (by decide) ty_42_9 rfl rfl (fun b85369 b85370 => ?_))
      have k85371 := wOV_e (H := H85356) (m := r0)
      refine wp_of e185 c185_37 (rw_iconst (pc' := 38) rfl ?_)
      refine wp_of e185 c185_38 (rw_icmp_ne (p1 := 45) (p2 := 41) (by decide) rfl ⟨by omega, by omega⟩ ⟨by omega, by omega⟩ (fun c85372 => ?_) (fun c85372 => ?_))
      · refine wp_of e185 c185_45 (rw_aload_n (pc' := 46) (v := .ref r0) rfl rfl rfl ?_)
        have k85373 : H85356 r0 12 = H r0 12 := (f85361 r0 12 _ g0 rfl)
        refine wp_of e185 c185_46 (xg_I (pc' := 49) lf_9_101 w85360 g0 sh_42 (by decide) (by decide) ty_42_12 rfl rfl (fun b85374 b85375 => ?_))
        have k85376 : H85356 r0 8 = H r0 8 := (f85361 r0 8 _ g0 rfl)
        exact wp_ireturn e185 c185_49 rfl ⟨rfl, w85360, f85368, H85356 r0 12, rfl, ⟨by omega, by omega⟩, by omega, by omega, by omega, by omega, by omega⟩
      · refine wp_of e185 c185_41 (rw_iconst (pc' := 42) rfl ?_)
        refine wp_of e185 c185_42 (rw_goto (p1 := 49) (by decide) ?_)
        have k85377 : H85356 r0 8 = H r0 8 := (f85361 r0 8 _ g0 rfl)
        exact wp_ireturn e185 c185_49 rfl ⟨rfl, w85360, f85368, 0, rfl, ⟨by omega, by omega⟩, by omega, by omega, by omega, by omega, by omega⟩
  · refine wp_of e185 c185_8 (rw_aload_n (pc' := 9) (v := .ref r0) rfl rfl rfl ?_)
    refine wp_of e185 c185_9 (rw_iconst (pc' := 10) rfl ?_)
    refine wp_of e185 c185_10 (xc_V (pc' := 13) (r := r0) (as := [vI 1]) (st := []) (lm_9_121) rfl rfl (Nat.le_of_ble_eq_true rfl) hW g0 sh_42 (by decide) rfl (by decide) (s_181 hW g0 ⟨by omega, by omega⟩ (by omega)) (fun R85378 T85379 H85380 p85381 => ?_))
    obtain ⟨e85382, w85384, f85385, e85383, p85386, p85387, p85388, p85389, p85390, p85391⟩ := p85381
    subst e85382
    subst e85383
    have f85392 := f0.tr f85385 rfl
    show wp _ _ 185 13 [(0, .ref r0), (1, vI a1), (2, vI a2)] [] _ H85380 _
    refine wp_of e185 c185_13 (rw_goto (p1 := 33) (by decide) ?_)
    refine wp_of e185 c185_33 (rw_aload_n (pc' := 34) (v := .ref r0) rfl rfl rfl ?_)
    refine wp_of e185 c185_34 (xg_I (pc' := 37) lf_9_75 w85384 g0 sh_42 (by decide) (by decide) ty_42_9 rfl rfl (fun b85393 b85394 => ?_))
    have k85395 := wOV_e (H := H85380) (m := r0)
    refine wp_of e185 c185_37 (rw_iconst (pc' := 38) rfl ?_)
    refine wp_of e185 c185_38 (rw_icmp_ne (p1 := 45) (p2 := 41) (by decide) rfl ⟨by omega, by omega⟩ ⟨by omega, by omega⟩ (fun c85396 => ?_) (fun c85396 => ?_))
    · refine wp_of e185 c185_45 (rw_aload_n (pc' := 46) (v := .ref r0) rfl rfl rfl ?_)
      refine wp_of e185 c185_46 (xg_I (pc' := 49) lf_9_101 w85384 g0 sh_42 (by decide) (by decide) ty_42_12 rfl rfl (fun b85397 b85398 => ?_))
      have k85399 : H85380 r0 8 = H r0 8 := (f85385 r0 8 _ g0 rfl)
      exact wp_ireturn e185 c185_49 rfl ⟨rfl, w85384, f85392, H85380 r0 12, rfl, ⟨by omega, by omega⟩, by omega, by omega, by omega, by omega, by omega⟩
    · refine wp_of e185 c185_41 (rw_iconst (pc' := 42) rfl ?_)
      refine wp_of e185 c185_42 (rw_goto (p1 := 49) (by decide) ?_)
      have k85400 : H85380 r0 8 = H r0 8 := (f85385 r0 8 _ g0 rfl)
      exact wp_ireturn e185 c185_49 rfl ⟨rfl, w85384, f85392, 0, rfl, ⟨by omega, by omega⟩, by omega, by omega, by omega, by omega, by omega⟩
/-! StrikeAwakeModel.readWhole(II)I -/
theorem e184 : wq_en 184 = some (9, 4, false, some FieldType.int) := rfl
theorem c184_0 : mc_cd 184 0 = some (.aload_n 0, 1) := by decide +kernel
theorem c184_1 : mc_cd 184 1 = some (.iload_n 1, 1) := by decide +kernel
theorem c184_2 : mc_cd 184 2 = some (.iload_n 2, 1) := by decide +kernel
theorem c184_3 : mc_cd 184 3 = some (.invokevirtual 129, 3) := by decide +kernel
theorem c184_6 : mc_cd 184 6 = some (.istore_n 3, 1) := by decide +kernel
theorem c184_7 : mc_cd 184 7 = some (.aload_n 0, 1) := by decide +kernel
theorem c184_8 : mc_cd 184 8 = some (.invokevirtual 118, 3) := by decide +kernel
theorem c184_11 : mc_cd 184 11 = some (.iload_n 3, 1) := by decide +kernel
theorem c184_12 : mc_cd 184 12 = some (.ireturn, 1) := by decide +kernel
abbrev q_184 (r0 : Nat) (a1 : Int) (a2 : Int) (T : wq_T) (H : wq_H) : Option Value → wq_T → wq_H → Prop := fun r T' H' => T = T' ∧ WT T H' ∧ wfr [(42, 8), (42, 9), (42, 10), (42, 11), (42, 12), (42, 13), (42, 14), (42, 15)] T H H' ∧ ∃ z : Int, some (vI z) = r ∧ (0 ≤ z ∧ z ≤ 100) ∧ (wJ H' r0 = 1) ∧ (H r0 10 ≤ H' r0 10) ∧ (wOV H r0 ≤ wOV H' r0) ∧ (wOV H' r0 ≤ 1) ∧ (z = 0 ∨ (a1 ≤ z ∧ z ≤ a2))
set_option maxHeartbeats 4000000 in
theorem s_184 {kt : Nat → Option mc_E} {T : wq_T} {H : wq_H} {r0 : Nat} {a1 : Int} {a2 : Int} (hW : WT T H) (g0 : T.2.2.2 r0 = some 42) (i1 : 0 ≤ a1 ∧ a1 ≤ 100) (i2 : 0 ≤ a2 ∧ a2 ≤ 100) (p0 : wJ H r0 = 1) : wpc kt 3 184 [.ref r0, vI a1, vI a2] T H (q_184 r0 a1 a2 T H) := by
  refine wp_enter e184 (Nat.le_of_ble_eq_true rfl) rfl ?_
  have f0 : wfr [(42, 8), (42, 9), (42, 10), (42, 11), (42, 12), (42, 13), (42, 14), (42, 15)] T H H := wfr.rf
  show wp _ _ 184 0 [(0, .ref r0), (1, vI a1), (2, vI a2)] [] _ H _
  have hb0 := wOV_b (H := H) (m := r0)
  refine wp_of e184 c184_0 (rw_aload_n (pc' := 1) (v := .ref r0) rfl rfl rfl ?_)
  refine wp_of e184 c184_1 (rw_iload_n (pc' := 2) (z := a1) rfl rfl ?_)
  refine wp_of e184 c184_2 (rw_iload_n (pc' := 3) (z := a2) rfl rfl ?_)
  refine wp_of e184 c184_3 (xc_V (pc' := 6) (r := r0) (as := [vI a1, vI a2]) (st := []) (lm_9_129) rfl rfl (Nat.le_of_ble_eq_true rfl) hW g0 sh_42 (by decide) rfl (by decide) (s_185 hW g0 ⟨by omega, by omega⟩ ⟨by omega, by omega⟩ (by omega)) (fun R85432 T85433 H85434 p85435 => ?_))
  obtain ⟨e85436, w85438, f85439, z85445, e85437, b85446, p85440, p85441, p85442, p85443, p85444⟩ := p85435
  subst e85436
  subst e85437
  have f85447 := f0.tr f85439 rfl
  show wp _ _ 184 6 [(0, .ref r0), (1, vI a1), (2, vI a2)] [vI z85445] _ H85434 _
  refine wp_of e184 c184_6 (rw_istore_n (pc' := 7) (z := z85445) (L' := [(3, vI z85445), (0, .ref r0), (1, vI a1), (2, vI a2)]) rfl rfl rfl ?_)
  refine wp_of e184 c184_7 (rw_aload_n (pc' := 8) (v := .ref r0) rfl rfl rfl ?_)
  refine wp_of e184 c184_8 (xc_V (pc' := 11) (r := r0) (as := []) (st := []) (lm_9_118) rfl rfl (Nat.le_of_ble_eq_true rfl) w85438 g0 sh_42 (by decide) rfl (by decide) (s_172 w85438 g0 (by omega)) (fun R85448 T85449 H85450 p85451 => ?_))
  obtain ⟨e85452, w85454, f85455, e85453, p85456, p85457, p85458, p85459, p85460, p85461⟩ := p85451
  subst e85452
  subst e85453
  have f85462 := f85447.tr f85455 rfl
  show wp _ _ 184 11 [(3, vI z85445), (0, .ref r0), (1, vI a1), (2, vI a2)] [] _ H85450 _
  refine wp_of e184 c184_11 (rw_iload_n (pc' := 12) (z := z85445) rfl rfl ?_)
  exact wp_ireturn e184 c184_12 rfl ⟨rfl, w85454, f85462, z85445, rfl, ⟨by omega, by omega⟩, by omega, by omega, by omega, by omega, by omega⟩
/-! StrikeAwakeModel.readPart(Ljava/lang/String;II)I -/
theorem e182 : wq_en 182 = some (9, 4, false, some FieldType.int) := rfl
theorem c182_0 : mc_cd 182 0 = some (.aload_n 0, 1) := by decide +kernel
theorem c182_1 : mc_cd 182 1 = some (.aload_n 1, 1) := by decide +kernel
theorem c182_2 : mc_cd 182 2 = some (.invokevirtual 133, 3) := by decide +kernel
theorem c182_5 : mc_cd 182 5 = some (.aload_n 0, 1) := by decide +kernel
theorem c182_6 : mc_cd 182 6 = some (.iload_n 2, 1) := by decide +kernel
theorem c182_7 : mc_cd 182 7 = some (.iload_n 3, 1) := by decide +kernel
theorem c182_8 : mc_cd 182 8 = some (.invokevirtual 137, 3) := by decide +kernel
theorem c182_11 : mc_cd 182 11 = some (.ireturn, 1) := by decide +kernel
abbrev q_182 (r0 : Nat) (s1 : Nat) (a2 : Int) (a3 : Int) (T : wq_T) (H : wq_H) : Option Value → wq_T → wq_H → Prop := fun r T' H' => T = T' ∧ WT T H' ∧ wfr [(42, 8), (42, 9), (42, 10), (42, 11), (42, 12), (42, 13), (42, 14), (42, 15)] T H H' ∧ ∃ z : Int, some (vI z) = r ∧ (0 ≤ z ∧ z ≤ 100) ∧ (wJ H' r0 = 1) ∧ (H r0 10 ≤ H' r0 10) ∧ (wOV H r0 ≤ wOV H' r0) ∧ (wOV H' r0 ≤ 1) ∧ (z = 0 ∨ (a2 ≤ z ∧ z ≤ a3))
set_option maxHeartbeats 4000000 in
theorem s_182 {kt : Nat → Option mc_E} {T : wq_T} {H : wq_H} {r0 : Nat} {s1 : Nat} {t1 : List Int32} {a2 : Int} {a3 : Int} (hW : WT T H) (g0 : T.2.2.2 r0 = some 42) (h1 : mc_find mc_sb s1 = some t1) (i2 : 0 ≤ a2 ∧ a2 ≤ 100) (i3 : 0 ≤ a3 ∧ a3 ≤ 100) (p0 : wJ H r0 = 1) : wpc kt 4 182 [.ref r0, .ref s1, vI a2, vI a3] T H (q_182 r0 s1 a2 a3 T H) := by
  refine wp_enter e182 (Nat.le_of_ble_eq_true rfl) rfl ?_
  have f0 : wfr [(42, 8), (42, 9), (42, 10), (42, 11), (42, 12), (42, 13), (42, 14), (42, 15)] T H H := wfr.rf
  show wp _ _ 182 0 [(0, .ref r0), (1, .ref s1), (2, vI a2), (3, vI a3)] [] _ H _
  have hb0 := wOV_b (H := H) (m := r0)
  refine wp_of e182 c182_0 (rw_aload_n (pc' := 1) (v := .ref r0) rfl rfl rfl ?_)
  refine wp_of e182 c182_1 (rw_aload_n (pc' := 2) (v := .ref s1) rfl rfl rfl ?_)
  refine wp_of e182 c182_2 (xc_V (pc' := 5) (r := r0) (as := [.ref s1]) (st := []) (lm_9_133) rfl rfl (Nat.le_of_ble_eq_true rfl) hW g0 sh_42 (by decide) rfl (by decide) (s_183 hW g0 h1 (by omega)) (fun R85492 T85493 H85494 p85495 => ?_))
  obtain ⟨e85496, w85498, f85499, e85497, p85500, p85501, p85502, p85503⟩ := p85495
  subst e85496
  subst e85497
  have f85504 := f0.tr f85499 rfl
  show wp _ _ 182 5 [(0, .ref r0), (1, .ref s1), (2, vI a2), (3, vI a3)] [] _ H85494 _
  refine wp_of e182 c182_5 (rw_aload_n (pc' := 6) (v := .ref r0) rfl rfl rfl ?_)
  refine wp_of e182 c182_6 (rw_iload_n (pc' := 7) (z := a2) rfl rfl ?_)
  refine wp_of e182 c182_7 (rw_iload_n (pc' := 8) (z := a3) rfl rfl ?_)
  refine wp_of e182 c182_8 (xc_V (pc' := 11) (r := r0) (as := [vI a2, vI a3]) (st := []) (lm_9_137) rfl rfl (Nat.le_of_ble_eq_true rfl) w85498 g0 sh_42 (by decide) rfl (by decide) (s_184 w85498 g0 ⟨by omega, by omega⟩ ⟨by omega, by omega⟩ (by omega)) (fun R85505 T85506 H85507 p85508 => ?_))
  obtain ⟨e85509, w85511, f85512, z85518, e85510, b85519, p85513, p85514, p85515, p85516, p85517⟩ := p85508
  subst e85509
  subst e85510
  have f85520 := f85504.tr f85512 rfl
  show wp _ _ 182 11 [(0, .ref r0), (1, .ref s1), (2, vI a2), (3, vI a3)] [vI z85518] _ H85507 _
  exact wp_ireturn e182 c182_11 rfl ⟨rfl, w85511, f85520, z85518, rfl, ⟨by omega, by omega⟩, by omega, by omega, by omega, by omega, by omega⟩
/-! StrikeAwakeModel.readLaw()V -/
theorem e180 : wq_en 180 = some (9, 2, false, none) := rfl
theorem c180_0 : mc_cd 180 0 = some (.aload_n 0, 1) := by decide +kernel
theorem c180_1 : mc_cd 180 1 = some (.getfield 166, 3) := by decide +kernel
theorem c180_4 : mc_cd 180 4 = some (.getfield 185, 3) := by decide +kernel
theorem c180_7 : mc_cd 180 7 = some (.ifCond .le 8, 3) := by decide +kernel
theorem c180_10 : mc_cd 180 10 = some (.aload_n 0, 1) := by decide +kernel
theorem c180_11 : mc_cd 180 11 = some (.iconst 3, 1) := by decide +kernel
theorem c180_12 : mc_cd 180 12 = some (.invokevirtual 121, 3) := by decide +kernel
theorem c180_15 : mc_cd 180 15 = some (.aload_n 0, 1) := by decide +kernel
theorem c180_16 : mc_cd 180 16 = some (.invokevirtual 118, 3) := by decide +kernel
theorem c180_19 : mc_cd 180 19 = some (.aload_n 0, 1) := by decide +kernel
theorem c180_20 : mc_cd 180 20 = some (.ldc 215, 2) := by decide +kernel
theorem c180_22 : mc_cd 180 22 = some (.iconst 1, 1) := by decide +kernel
theorem c180_23 : mc_cd 180 23 = some (.bipush 24, 2) := by decide +kernel
theorem c180_25 : mc_cd 180 25 = some (.invokevirtual 216, 3) := by decide +kernel
theorem c180_28 : mc_cd 180 28 = some (.istore_n 1, 1) := by decide +kernel
theorem c180_29 : mc_cd 180 29 = some (.aload_n 0, 1) := by decide +kernel
theorem c180_30 : mc_cd 180 30 = some (.getfield 166, 3) := by decide +kernel
theorem c180_33 : mc_cd 180 33 = some (.aload_n 0, 1) := by decide +kernel
theorem c180_34 : mc_cd 180 34 = some (.ldc 220, 2) := by decide +kernel
theorem c180_36 : mc_cd 180 36 = some (.iconst 0, 1) := by decide +kernel
theorem c180_37 : mc_cd 180 37 = some (.bipush 9, 2) := by decide +kernel
theorem c180_39 : mc_cd 180 39 = some (.invokevirtual 216, 3) := by decide +kernel
theorem c180_42 : mc_cd 180 42 = some (.putfield 222, 3) := by decide +kernel
theorem c180_45 : mc_cd 180 45 = some (.aload_n 0, 1) := by decide +kernel
theorem c180_46 : mc_cd 180 46 = some (.getfield 166, 3) := by decide +kernel
theorem c180_49 : mc_cd 180 49 = some (.aload_n 0, 1) := by decide +kernel
theorem c180_50 : mc_cd 180 50 = some (.ldc 224, 2) := by decide +kernel
theorem c180_52 : mc_cd 180 52 = some (.iconst 0, 1) := by decide +kernel
theorem c180_53 : mc_cd 180 53 = some (.iconst 3, 1) := by decide +kernel
theorem c180_54 : mc_cd 180 54 = some (.invokevirtual 216, 3) := by decide +kernel
theorem c180_57 : mc_cd 180 57 = some (.putfield 226, 3) := by decide +kernel
theorem c180_60 : mc_cd 180 60 = some (.aload_n 0, 1) := by decide +kernel
theorem c180_61 : mc_cd 180 61 = some (.getfield 75, 3) := by decide +kernel
theorem c180_64 : mc_cd 180 64 = some (.iconst 5, 1) := by decide +kernel
theorem c180_65 : mc_cd 180 65 = some (.if_icmp .eq 11, 3) := by decide +kernel
theorem c180_68 : mc_cd 180 68 = some (.aload_n 0, 1) := by decide +kernel
theorem c180_69 : mc_cd 180 69 = some (.getfield 166, 3) := by decide +kernel
theorem c180_72 : mc_cd 180 72 = some (.iload_n 1, 1) := by decide +kernel
theorem c180_73 : mc_cd 180 73 = some (.putfield 185, 3) := by decide +kernel
theorem c180_76 : mc_cd 180 76 = some (.return_, 1) := by decide +kernel
abbrev q_180 (r0 : Nat) (rp : Nat) (T : wq_T) (H : wq_H) : Option Value → wq_T → wq_H → Prop := fun r T' H' => T = T' ∧ WT T H' ∧ wfr [(54, 0), (54, 1), (54, 2), (42, 8), (42, 9), (42, 10), (42, 11), (42, 12), (42, 13), (42, 14), (42, 15)] T H H' ∧ none = r ∧ (wJ H' r0 = 1) ∧ (H r0 10 ≤ H' r0 10) ∧ (wOV H r0 ≤ wOV H' r0) ∧ (wOV H' r0 ≤ 1)
set_option maxHeartbeats 4000000 in
theorem s_180 {kt : Nat → Option mc_E} {T : wq_T} {H : wq_H} {r0 : Nat} {rp : Nat} (hW : WT T H) (g0 : T.2.2.2 r0 = some 42) (qrp : H r0 4 = (rp : Int)) (grp : T.2.2.2 rp = some 54) (p0 : wJ H r0 = 1) : wpc kt 5 180 [.ref r0] T H (q_180 r0 rp T H) := by
  refine wp_enter e180 (Nat.le_of_ble_eq_true rfl) rfl ?_
  have f0 : wfr [(54, 0), (54, 1), (54, 2), (42, 8), (42, 9), (42, 10), (42, 11), (42, 12), (42, 13), (42, 14), (42, 15)] T H H := wfr.rf
  show wp _ _ 180 0 [(0, .ref r0)] [] _ H _
  have hb0 := wOV_b (H := H) (m := r0)
  refine wp_of e180 c180_0 (rw_aload_n (pc' := 1) (v := .ref r0) rfl rfl rfl ?_)
  refine wp_of e180 c180_1 (xg_K (pc' := 4) lf_9_166 hW g0 sh_42 (by decide) (by decide) rfl qrp rfl ?_)
  refine wp_of e180 c180_4 (xg_I (pc' := 7) lf_9_185 hW grp sh_54 (by decide) (by decide) ty_54_0 rfl rfl (fun b85735 b85736 => ?_))
  refine wp_of e180 c180_7 (rw_if_le (p1 := 15) (p2 := 10) (by decide) rfl ⟨by omega, by omega⟩ (fun c85737 => ?_) (fun c85737 => ?_))
  · refine wp_of e180 c180_15 (rw_aload_n (pc' := 16) (v := .ref r0) rfl rfl rfl ?_)
    refine wp_of e180 c180_16 (xc_V (pc' := 19) (r := r0) (as := []) (st := []) (lm_9_118) rfl rfl (Nat.le_of_ble_eq_true rfl) hW g0 sh_42 (by decide) rfl (by decide) (s_172 hW g0 (by omega)) (fun R85738 T85739 H85740 p85741 => ?_))
    obtain ⟨e85742, w85744, f85745, e85743, p85746, p85747, p85748, p85749, p85750, p85751⟩ := p85741
    subst e85742
    subst e85743
    have f85752 := f0.tr f85745 rfl
    show wp _ _ 180 19 [(0, .ref r0)] [] _ H85740 _
    refine wp_of e180 c180_19 (rw_aload_n (pc' := 20) (v := .ref r0) rfl rfl rfl ?_)
    refine wp_of e180 c180_20 (rw_ldcS (pc' := 22) (k := 73) rfl rfl rfl rfl ?_)
    refine wp_of e180 c180_22 (rw_iconst (pc' := 23) rfl ?_)
    refine wp_of e180 c180_23 (rw_bipush (pc' := 25) (z := 24) rfl (by decide) ?_)
    refine wp_of e180 c180_25 (xc_V (pc' := 28) (r := r0) (as := [.ref 73, vI 1, vI 24]) (st := []) (lm_9_216) rfl rfl (Nat.le_of_ble_eq_true rfl) w85744 g0 sh_42 (by decide) rfl (by decide) (s_182 w85744 g0 rfl ⟨by omega, by omega⟩ ⟨by omega, by omega⟩ (by omega)) (fun R85753 T85754 H85755 p85756 => ?_))
    obtain ⟨e85757, w85759, f85760, z85766, e85758, b85767, p85761, p85762, p85763, p85764, p85765⟩ := p85756
    subst e85757
    subst e85758
    have f85768 := f85752.tr f85760 rfl
    show wp _ _ 180 28 [(0, .ref r0)] [vI z85766] _ H85755 _
    refine wp_of e180 c180_28 (rw_istore_n (pc' := 29) (z := z85766) (L' := [(1, vI z85766), (0, .ref r0)]) rfl rfl rfl ?_)
    refine wp_of e180 c180_29 (rw_aload_n (pc' := 30) (v := .ref r0) rfl rfl rfl ?_)
    have k85769 : H85755 r0 4 = H r0 4 := ((f85760 r0 4 _ g0 rfl).trans (f85745 r0 4 _ g0 rfl))
    have q85770 : H85755 r0 4 = (rp : Int) := k85769.trans qrp
    refine wp_of e180 c180_30 (xg_K (pc' := 33) lf_9_166 w85759 g0 sh_42 (by decide) (by decide) rfl q85770 rfl ?_)
    refine wp_of e180 c180_33 (rw_aload_n (pc' := 34) (v := .ref r0) rfl rfl rfl ?_)
    refine wp_of e180 c180_34 (rw_ldcS (pc' := 36) (k := 74) rfl rfl rfl rfl ?_)
    refine wp_of e180 c180_36 (rw_iconst (pc' := 37) rfl ?_)
    refine wp_of e180 c180_37 (rw_bipush (pc' := 39) (z := 9) rfl (by decide) ?_)
    refine wp_of e180 c180_39 (xc_V (pc' := 42) (r := r0) (as := [.ref 74, vI 0, vI 9]) (st := [.ref rp]) (lm_9_216) rfl rfl (Nat.le_of_ble_eq_true rfl) w85759 g0 sh_42 (by decide) rfl (by decide) (s_182 w85759 g0 rfl ⟨by omega, by omega⟩ ⟨by omega, by omega⟩ (by omega)) (fun R85771 T85772 H85773 p85774 => ?_))
    obtain ⟨e85775, w85777, f85778, z85784, e85776, b85785, p85779, p85780, p85781, p85782, p85783⟩ := p85774
    subst e85775
    subst e85776
    have f85786 := f85768.tr f85778 rfl
    show wp _ _ 180 42 [(1, vI z85766), (0, .ref r0)] [vI z85784, .ref rp] _ H85773 _
    refine wp_of e180 c180_42 (xp_I (pc' := 45) lf_9_222 w85777 grp sh_54 (by decide) (by decide) ty_54_1 rfl rfl (by omega) (by omega) ⟨by omega, by omega⟩ rfl (fun H85787 e85788 w85789 => ?_))
    have f85790 := f85786.put' e85788 grp rfl
    have k85791 : H85787 rp 1 = z85784 := wq_u_s e85788
    refine wp_of e180 c180_45 (rw_aload_n (pc' := 46) (v := .ref r0) rfl rfl rfl ?_)
    have k85792 : H85787 r0 4 = H85755 r0 4 := ((wq_u_t e85788 grp g0 rfl 4).trans (f85778 r0 4 _ g0 rfl))
    have q85793 : H85787 r0 4 = (rp : Int) := k85792.trans q85770
    refine wp_of e180 c180_46 (xg_K (pc' := 49) lf_9_166 w85789 g0 sh_42 (by decide) (by decide) rfl q85793 rfl ?_)
    refine wp_of e180 c180_49 (rw_aload_n (pc' := 50) (v := .ref r0) rfl rfl rfl ?_)
    refine wp_of e180 c180_50 (rw_ldcS (pc' := 52) (k := 75) rfl rfl rfl rfl ?_)
    refine wp_of e180 c180_52 (rw_iconst (pc' := 53) rfl ?_)
    refine wp_of e180 c180_53 (rw_iconst (pc' := 54) rfl ?_)
    have k85794 : wJ H85787 r0 = wJ H85773 r0 := (wJ_fr w85777 g0 ((wfr.rf (l := [(54, 1)])).put' e85788 grp rfl) rfl)
    have k85795 : wOV H85787 r0 = wOV H85773 r0 := (wOV_fr w85777 g0 ((wfr.rf (l := [(54, 1)])).put' e85788 grp rfl) rfl)
    have k85796 : H85787 r0 10 = H85773 r0 10 := (wq_u_t e85788 grp g0 rfl 10)
    refine wp_of e180 c180_54 (xc_V (pc' := 57) (r := r0) (as := [.ref 75, vI 0, vI 3]) (st := [.ref rp]) (lm_9_216) rfl rfl (Nat.le_of_ble_eq_true rfl) w85789 g0 sh_42 (by decide) rfl (by decide) (s_182 w85789 g0 rfl ⟨by omega, by omega⟩ ⟨by omega, by omega⟩ (by omega)) (fun R85797 T85798 H85799 p85800 => ?_))
    obtain ⟨e85801, w85803, f85804, z85810, e85802, b85811, p85805, p85806, p85807, p85808, p85809⟩ := p85800
    subst e85801
    subst e85802
    have f85812 := f85790.tr f85804 rfl
    show wp _ _ 180 57 [(1, vI z85766), (0, .ref r0)] [vI z85810, .ref rp] _ H85799 _
    refine wp_of e180 c180_57 (xp_I (pc' := 60) lf_9_226 w85803 grp sh_54 (by decide) (by decide) ty_54_2 rfl rfl (by omega) (by omega) ⟨by omega, by omega⟩ rfl (fun H85813 e85814 w85815 => ?_))
    have f85816 := f85812.put' e85814 grp rfl
    have k85817 : H85813 rp 2 = z85810 := wq_u_s e85814
    refine wp_of e180 c180_60 (rw_aload_n (pc' := 61) (v := .ref r0) rfl rfl rfl ?_)
    refine wp_of e180 c180_61 (xg_I (pc' := 64) lf_9_75 w85815 g0 sh_42 (by decide) (by decide) ty_42_9 rfl rfl (fun b85818 b85819 => ?_))
    have k85820 := wOV_e (H := H85813) (m := r0)
    refine wp_of e180 c180_64 (rw_iconst (pc' := 65) rfl ?_)
    refine wp_of e180 c180_65 (rw_icmp_eq (p1 := 76) (p2 := 68) (by decide) rfl ⟨by omega, by omega⟩ ⟨by omega, by omega⟩ (fun c85821 => ?_) (fun c85821 => ?_))
    · have k85822 : H85813 r0 10 = H85799 r0 10 := (wq_u_t e85814 grp g0 rfl 10)
      have k85823 : wOV H85813 r0 = wOV H85799 r0 := (wOV_fr w85803 g0 ((wfr.rf (l := [(54, 2)])).put' e85814 grp rfl) rfl)
      have k85824 : wJ H85813 r0 = wJ H85799 r0 := (wJ_fr w85803 g0 ((wfr.rf (l := [(54, 2)])).put' e85814 grp rfl) rfl)
      exact wp_return e180 c180_76 rfl ⟨rfl, w85815, f85816, rfl, by omega, by omega, by omega, by omega⟩
    · refine wp_of e180 c180_68 (rw_aload_n (pc' := 69) (v := .ref r0) rfl rfl rfl ?_)
      have k85825 : H85813 r0 4 = H85787 r0 4 := ((wq_u_t e85814 grp g0 rfl 4).trans (f85804 r0 4 _ g0 rfl))
      have q85826 : H85813 r0 4 = (rp : Int) := k85825.trans q85793
      refine wp_of e180 c180_69 (xg_K (pc' := 72) lf_9_166 w85815 g0 sh_42 (by decide) (by decide) rfl q85826 rfl ?_)
      refine wp_of e180 c180_72 (rw_iload_n (pc' := 73) (z := z85766) rfl rfl ?_)
      refine wp_of e180 c180_73 (xp_I (pc' := 76) lf_9_185 w85815 grp sh_54 (by decide) (by decide) ty_54_0 rfl rfl (by omega) (by omega) ⟨by omega, by omega⟩ rfl (fun H85827 e85828 w85829 => ?_))
      have f85830 := f85816.put' e85828 grp rfl
      have k85831 : H85827 rp 0 = z85766 := wq_u_s e85828
      have k85832 : H85827 r0 9 = H85813 r0 9 := (wq_u_t e85828 grp g0 rfl 9)
      have k85833 : H85827 r0 10 = H85799 r0 10 := ((wq_u_t e85828 grp g0 rfl 10).trans (wq_u_t e85814 grp g0 rfl 10))
      have k85834 : wOV H85827 r0 = wOV H85799 r0 := ((wOV_fr w85815 g0 ((wfr.rf (l := [(54, 0)])).put' e85828 grp rfl) rfl).trans (wOV_fr w85803 g0 ((wfr.rf (l := [(54, 2)])).put' e85814 grp rfl) rfl))
      have k85835 : wJ H85827 r0 = wJ H85799 r0 := ((wJ_fr w85815 g0 ((wfr.rf (l := [(54, 0)])).put' e85828 grp rfl) rfl).trans (wJ_fr w85803 g0 ((wfr.rf (l := [(54, 2)])).put' e85814 grp rfl) rfl))
      exact wp_return e180 c180_76 rfl ⟨rfl, w85829, f85830, rfl, by omega, by omega, by omega, by omega⟩
  · refine wp_of e180 c180_10 (rw_aload_n (pc' := 11) (v := .ref r0) rfl rfl rfl ?_)
    refine wp_of e180 c180_11 (rw_iconst (pc' := 12) rfl ?_)
    refine wp_of e180 c180_12 (xc_V (pc' := 15) (r := r0) (as := [vI 3]) (st := []) (lm_9_121) rfl rfl (Nat.le_of_ble_eq_true rfl) hW g0 sh_42 (by decide) rfl (by decide) (s_181 hW g0 ⟨by omega, by omega⟩ (by omega)) (fun R85836 T85837 H85838 p85839 => ?_))
    obtain ⟨e85840, w85842, f85843, e85841, p85844, p85845, p85846, p85847, p85848, p85849⟩ := p85839
    subst e85840
    subst e85841
    have f85850 := f0.tr f85843 rfl
    show wp _ _ 180 15 [(0, .ref r0)] [] _ H85838 _
    refine wp_of e180 c180_15 (rw_aload_n (pc' := 16) (v := .ref r0) rfl rfl rfl ?_)
    refine wp_of e180 c180_16 (xc_V (pc' := 19) (r := r0) (as := []) (st := []) (lm_9_118) rfl rfl (Nat.le_of_ble_eq_true rfl) w85842 g0 sh_42 (by decide) rfl (by decide) (s_172 w85842 g0 (by omega)) (fun R85851 T85852 H85853 p85854 => ?_))
    obtain ⟨e85855, w85857, f85858, e85856, p85859, p85860, p85861, p85862, p85863, p85864⟩ := p85854
    subst e85855
    subst e85856
    have f85865 := f85850.tr f85858 rfl
    show wp _ _ 180 19 [(0, .ref r0)] [] _ H85853 _
    refine wp_of e180 c180_19 (rw_aload_n (pc' := 20) (v := .ref r0) rfl rfl rfl ?_)
    refine wp_of e180 c180_20 (rw_ldcS (pc' := 22) (k := 73) rfl rfl rfl rfl ?_)
    refine wp_of e180 c180_22 (rw_iconst (pc' := 23) rfl ?_)
    refine wp_of e180 c180_23 (rw_bipush (pc' := 25) (z := 24) rfl (by decide) ?_)
    refine wp_of e180 c180_25 (xc_V (pc' := 28) (r := r0) (as := [.ref 73, vI 1, vI 24]) (st := []) (lm_9_216) rfl rfl (Nat.le_of_ble_eq_true rfl) w85857 g0 sh_42 (by decide) rfl (by decide) (s_182 w85857 g0 rfl ⟨by omega, by omega⟩ ⟨by omega, by omega⟩ (by omega)) (fun R85866 T85867 H85868 p85869 => ?_))
    obtain ⟨e85870, w85872, f85873, z85879, e85871, b85880, p85874, p85875, p85876, p85877, p85878⟩ := p85869
    subst e85870
    subst e85871
    have f85881 := f85865.tr f85873 rfl
    show wp _ _ 180 28 [(0, .ref r0)] [vI z85879] _ H85868 _
    refine wp_of e180 c180_28 (rw_istore_n (pc' := 29) (z := z85879) (L' := [(1, vI z85879), (0, .ref r0)]) rfl rfl rfl ?_)
    refine wp_of e180 c180_29 (rw_aload_n (pc' := 30) (v := .ref r0) rfl rfl rfl ?_)
    have k85882 : H85868 r0 4 = H r0 4 := ((f85873 r0 4 _ g0 rfl).trans ((f85858 r0 4 _ g0 rfl).trans (f85843 r0 4 _ g0 rfl)))
    have q85883 : H85868 r0 4 = (rp : Int) := k85882.trans qrp
    refine wp_of e180 c180_30 (xg_K (pc' := 33) lf_9_166 w85872 g0 sh_42 (by decide) (by decide) rfl q85883 rfl ?_)
    refine wp_of e180 c180_33 (rw_aload_n (pc' := 34) (v := .ref r0) rfl rfl rfl ?_)
    refine wp_of e180 c180_34 (rw_ldcS (pc' := 36) (k := 74) rfl rfl rfl rfl ?_)
    refine wp_of e180 c180_36 (rw_iconst (pc' := 37) rfl ?_)
    refine wp_of e180 c180_37 (rw_bipush (pc' := 39) (z := 9) rfl (by decide) ?_)
    refine wp_of e180 c180_39 (xc_V (pc' := 42) (r := r0) (as := [.ref 74, vI 0, vI 9]) (st := [.ref rp]) (lm_9_216) rfl rfl (Nat.le_of_ble_eq_true rfl) w85872 g0 sh_42 (by decide) rfl (by decide) (s_182 w85872 g0 rfl ⟨by omega, by omega⟩ ⟨by omega, by omega⟩ (by omega)) (fun R85884 T85885 H85886 p85887 => ?_))
    obtain ⟨e85888, w85890, f85891, z85897, e85889, b85898, p85892, p85893, p85894, p85895, p85896⟩ := p85887
    subst e85888
    subst e85889
    have f85899 := f85881.tr f85891 rfl
    show wp _ _ 180 42 [(1, vI z85879), (0, .ref r0)] [vI z85897, .ref rp] _ H85886 _
    refine wp_of e180 c180_42 (xp_I (pc' := 45) lf_9_222 w85890 grp sh_54 (by decide) (by decide) ty_54_1 rfl rfl (by omega) (by omega) ⟨by omega, by omega⟩ rfl (fun H85900 e85901 w85902 => ?_))
    have f85903 := f85899.put' e85901 grp rfl
    have k85904 : H85900 rp 1 = z85897 := wq_u_s e85901
    refine wp_of e180 c180_45 (rw_aload_n (pc' := 46) (v := .ref r0) rfl rfl rfl ?_)
    have k85905 : H85900 r0 4 = H85868 r0 4 := ((wq_u_t e85901 grp g0 rfl 4).trans (f85891 r0 4 _ g0 rfl))
    have q85906 : H85900 r0 4 = (rp : Int) := k85905.trans q85883
    refine wp_of e180 c180_46 (xg_K (pc' := 49) lf_9_166 w85902 g0 sh_42 (by decide) (by decide) rfl q85906 rfl ?_)
    refine wp_of e180 c180_49 (rw_aload_n (pc' := 50) (v := .ref r0) rfl rfl rfl ?_)
    refine wp_of e180 c180_50 (rw_ldcS (pc' := 52) (k := 75) rfl rfl rfl rfl ?_)
    refine wp_of e180 c180_52 (rw_iconst (pc' := 53) rfl ?_)
    refine wp_of e180 c180_53 (rw_iconst (pc' := 54) rfl ?_)
    have k85907 : wJ H85900 r0 = wJ H85886 r0 := (wJ_fr w85890 g0 ((wfr.rf (l := [(54, 1)])).put' e85901 grp rfl) rfl)
    have k85908 : wOV H85900 r0 = wOV H85886 r0 := (wOV_fr w85890 g0 ((wfr.rf (l := [(54, 1)])).put' e85901 grp rfl) rfl)
    have k85909 : H85900 r0 10 = H85886 r0 10 := (wq_u_t e85901 grp g0 rfl 10)
    refine wp_of e180 c180_54 (xc_V (pc' := 57) (r := r0) (as := [.ref 75, vI 0, vI 3]) (st := [.ref rp]) (lm_9_216) rfl rfl (Nat.le_of_ble_eq_true rfl) w85902 g0 sh_42 (by decide) rfl (by decide) (s_182 w85902 g0 rfl ⟨by omega, by omega⟩ ⟨by omega, by omega⟩ (by omega)) (fun R85910 T85911 H85912 p85913 => ?_))
    obtain ⟨e85914, w85916, f85917, z85923, e85915, b85924, p85918, p85919, p85920, p85921, p85922⟩ := p85913
    subst e85914
    subst e85915
    have f85925 := f85903.tr f85917 rfl
    show wp _ _ 180 57 [(1, vI z85879), (0, .ref r0)] [vI z85923, .ref rp] _ H85912 _
    refine wp_of e180 c180_57 (xp_I (pc' := 60) lf_9_226 w85916 grp sh_54 (by decide) (by decide) ty_54_2 rfl rfl (by omega) (by omega) ⟨by omega, by omega⟩ rfl (fun H85926 e85927 w85928 => ?_))
    have f85929 := f85925.put' e85927 grp rfl
    have k85930 : H85926 rp 2 = z85923 := wq_u_s e85927
    refine wp_of e180 c180_60 (rw_aload_n (pc' := 61) (v := .ref r0) rfl rfl rfl ?_)
    refine wp_of e180 c180_61 (xg_I (pc' := 64) lf_9_75 w85928 g0 sh_42 (by decide) (by decide) ty_42_9 rfl rfl (fun b85931 b85932 => ?_))
    have k85933 := wOV_e (H := H85926) (m := r0)
    refine wp_of e180 c180_64 (rw_iconst (pc' := 65) rfl ?_)
    refine wp_of e180 c180_65 (rw_icmp_eq (p1 := 76) (p2 := 68) (by decide) rfl ⟨by omega, by omega⟩ ⟨by omega, by omega⟩ (fun c85934 => ?_) (fun c85934 => ?_))
    · have k85935 : H85926 r0 10 = H85912 r0 10 := (wq_u_t e85927 grp g0 rfl 10)
      have k85936 : wOV H85926 r0 = wOV H85912 r0 := (wOV_fr w85916 g0 ((wfr.rf (l := [(54, 2)])).put' e85927 grp rfl) rfl)
      have k85937 : wJ H85926 r0 = wJ H85912 r0 := (wJ_fr w85916 g0 ((wfr.rf (l := [(54, 2)])).put' e85927 grp rfl) rfl)
      exact wp_return e180 c180_76 rfl ⟨rfl, w85928, f85929, rfl, by omega, by omega, by omega, by omega⟩
    · refine wp_of e180 c180_68 (rw_aload_n (pc' := 69) (v := .ref r0) rfl rfl rfl ?_)
      have k85938 : H85926 r0 4 = H85900 r0 4 := ((wq_u_t e85927 grp g0 rfl 4).trans (f85917 r0 4 _ g0 rfl))
      have q85939 : H85926 r0 4 = (rp : Int) := k85938.trans q85906
      refine wp_of e180 c180_69 (xg_K (pc' := 72) lf_9_166 w85928 g0 sh_42 (by decide) (by decide) rfl q85939 rfl ?_)
      refine wp_of e180 c180_72 (rw_iload_n (pc' := 73) (z := z85879) rfl rfl ?_)
      refine wp_of e180 c180_73 (xp_I (pc' := 76) lf_9_185 w85928 grp sh_54 (by decide) (by decide) ty_54_0 rfl rfl (by omega) (by omega) ⟨by omega, by omega⟩ rfl (fun H85940 e85941 w85942 => ?_))
      have f85943 := f85929.put' e85941 grp rfl
      have k85944 : H85940 rp 0 = z85879 := wq_u_s e85941
      have k85945 : H85940 r0 9 = H85926 r0 9 := (wq_u_t e85941 grp g0 rfl 9)
      have k85946 : H85940 r0 10 = H85912 r0 10 := ((wq_u_t e85941 grp g0 rfl 10).trans (wq_u_t e85927 grp g0 rfl 10))
      have k85947 : wOV H85940 r0 = wOV H85912 r0 := ((wOV_fr w85928 g0 ((wfr.rf (l := [(54, 0)])).put' e85941 grp rfl) rfl).trans (wOV_fr w85916 g0 ((wfr.rf (l := [(54, 2)])).put' e85927 grp rfl) rfl))
      have k85948 : wJ H85940 r0 = wJ H85912 r0 := ((wJ_fr w85928 g0 ((wfr.rf (l := [(54, 0)])).put' e85941 grp rfl) rfl).trans (wJ_fr w85916 g0 ((wfr.rf (l := [(54, 2)])).put' e85927 grp rfl) rfl))
      exact wp_return e180 c180_76 rfl ⟨rfl, w85942, f85943, rfl, by omega, by omega, by omega, by omega⟩
/-! StrikeAwakeModel.begins(II)V -/
theorem e188 : wq_en 188 = some (9, 3, false, none) := rfl
theorem c188_0 : mc_cd 188 0 = some (.iload_n 1, 1) := by decide +kernel
theorem c188_1 : mc_cd 188 1 = some (.iload_n 2, 1) := by decide +kernel
theorem c188_2 : mc_cd 188 2 = some (.if_icmp .ne 8, 3) := by decide +kernel
theorem c188_5 : mc_cd 188 5 = some (.aload_n 0, 1) := by decide +kernel
theorem c188_6 : mc_cd 188 6 = some (.iconst 5, 1) := by decide +kernel
theorem c188_7 : mc_cd 188 7 = some (.invokevirtual 121, 3) := by decide +kernel
theorem c188_10 : mc_cd 188 10 = some (.aload_n 0, 1) := by decide +kernel
theorem c188_11 : mc_cd 188 11 = some (.invokevirtual 118, 3) := by decide +kernel
theorem c188_14 : mc_cd 188 14 = some (.return_, 1) := by decide +kernel
abbrev q_188 (r0 : Nat) (a1 : Int) (a2 : Int) (T : wq_T) (H : wq_H) : Option Value → wq_T → wq_H → Prop := fun r T' H' => T = T' ∧ WT T H' ∧ wfr [(42, 8), (42, 9), (42, 10), (42, 11), (42, 12), (42, 13), (42, 14), (42, 15)] T H H' ∧ none = r ∧ (wJ H' r0 = 1) ∧ (H r0 10 ≤ H' r0 10) ∧ (wOV H r0 ≤ wOV H' r0) ∧ (wOV H' r0 ≤ 1) ∧ (wOV H' r0 = 1 ∨ a1 ≠ a2)
set_option maxHeartbeats 4000000 in
theorem s_188 {kt : Nat → Option mc_E} {T : wq_T} {H : wq_H} {r0 : Nat} {a1 : Int} {a2 : Int} (hW : WT T H) (g0 : T.2.2.2 r0 = some 42) (i1 : (-2147483648) ≤ a1 ∧ a1 ≤ 2147483647) (i2 : (-2147483648) ≤ a2 ∧ a2 ≤ 2147483647) (p0 : wJ H r0 = 1) : wpc kt 3 188 [.ref r0, vI a1, vI a2] T H (q_188 r0 a1 a2 T H) := by
  refine wp_enter e188 (Nat.le_of_ble_eq_true rfl) rfl ?_
  have f0 : wfr [(42, 8), (42, 9), (42, 10), (42, 11), (42, 12), (42, 13), (42, 14), (42, 15)] T H H := wfr.rf
  show wp _ _ 188 0 [(0, .ref r0), (1, vI a1), (2, vI a2)] [] _ H _
  have hb0 := wOV_b (H := H) (m := r0)
  refine wp_of e188 c188_0 (rw_iload_n (pc' := 1) (z := a1) rfl rfl ?_)
  refine wp_of e188 c188_1 (rw_iload_n (pc' := 2) (z := a2) rfl rfl ?_)
  refine wp_of e188 c188_2 (rw_icmp_ne (p1 := 10) (p2 := 5) (by decide) rfl ⟨by omega, by omega⟩ ⟨by omega, by omega⟩ (fun c85995 => ?_) (fun c85995 => ?_))
  · refine wp_of e188 c188_10 (rw_aload_n (pc' := 11) (v := .ref r0) rfl rfl rfl ?_)
    refine wp_of e188 c188_11 (xc_V (pc' := 14) (r := r0) (as := []) (st := []) (lm_9_118) rfl rfl (Nat.le_of_ble_eq_true rfl) hW g0 sh_42 (by decide) rfl (by decide) (s_172 hW g0 (by omega)) (fun R85996 T85997 H85998 p85999 => ?_))
    obtain ⟨e86000, w86002, f86003, e86001, p86004, p86005, p86006, p86007, p86008, p86009⟩ := p85999
    subst e86000
    subst e86001
    have f86010 := f0.tr f86003 rfl
    show wp _ _ 188 14 [(0, .ref r0), (1, vI a1), (2, vI a2)] [] _ H85998 _
    exact wp_return e188 c188_14 rfl ⟨rfl, w86002, f86010, rfl, by omega, by omega, by omega, by omega, by omega⟩
  · refine wp_of e188 c188_5 (rw_aload_n (pc' := 6) (v := .ref r0) rfl rfl rfl ?_)
    refine wp_of e188 c188_6 (rw_iconst (pc' := 7) rfl ?_)
    refine wp_of e188 c188_7 (xc_V (pc' := 10) (r := r0) (as := [vI 5]) (st := []) (lm_9_121) rfl rfl (Nat.le_of_ble_eq_true rfl) hW g0 sh_42 (by decide) rfl (by decide) (s_181 hW g0 ⟨by omega, by omega⟩ (by omega)) (fun R86011 T86012 H86013 p86014 => ?_))
    obtain ⟨e86015, w86017, f86018, e86016, p86019, p86020, p86021, p86022, p86023, p86024⟩ := p86014
    subst e86015
    subst e86016
    have f86025 := f0.tr f86018 rfl
    show wp _ _ 188 10 [(0, .ref r0), (1, vI a1), (2, vI a2)] [] _ H86013 _
    refine wp_of e188 c188_10 (rw_aload_n (pc' := 11) (v := .ref r0) rfl rfl rfl ?_)
    refine wp_of e188 c188_11 (xc_V (pc' := 14) (r := r0) (as := []) (st := []) (lm_9_118) rfl rfl (Nat.le_of_ble_eq_true rfl) w86017 g0 sh_42 (by decide) rfl (by decide) (s_172 w86017 g0 (by omega)) (fun R86026 T86027 H86028 p86029 => ?_))
    obtain ⟨e86030, w86032, f86033, e86031, p86034, p86035, p86036, p86037, p86038, p86039⟩ := p86029
    subst e86030
    subst e86031
    have f86040 := f86025.tr f86033 rfl
    show wp _ _ 188 14 [(0, .ref r0), (1, vI a1), (2, vI a2)] [] _ H86028 _
    exact wp_return e188 c188_14 rfl ⟨rfl, w86032, f86040, rfl, by omega, by omega, by omega, by omega, by omega⟩
/-! StrikeAwakeModel.isName()Z -/
theorem e189 : wq_en 189 = some (9, 1, false, some FieldType.boolean) := rfl
theorem c189_0 : mc_cd 189 0 = some (.aload_n 0, 1) := by decide +kernel
theorem c189_1 : mc_cd 189 1 = some (.getfield 75, 3) := by decide +kernel
theorem c189_4 : mc_cd 189 4 = some (.iconst 2, 1) := by decide +kernel
theorem c189_5 : mc_cd 189 5 = some (.if_icmp .ne 57, 3) := by decide +kernel
theorem c189_8 : mc_cd 189 8 = some (.aload_n 0, 1) := by decide +kernel
theorem c189_9 : mc_cd 189 9 = some (.ldc 140, 2) := by decide +kernel
theorem c189_11 : mc_cd 189 11 = some (.invokevirtual 114, 3) := by decide +kernel
theorem c189_14 : mc_cd 189 14 = some (.ifCond .ne 48, 3) := by decide +kernel
theorem c189_17 : mc_cd 189 17 = some (.aload_n 0, 1) := by decide +kernel
theorem c189_18 : mc_cd 189 18 = some (.ldc 142, 2) := by decide +kernel
theorem c189_20 : mc_cd 189 20 = some (.invokevirtual 114, 3) := by decide +kernel
theorem c189_23 : mc_cd 189 23 = some (.ifCond .ne 39, 3) := by decide +kernel
theorem c189_26 : mc_cd 189 26 = some (.aload_n 0, 1) := by decide +kernel
theorem c189_27 : mc_cd 189 27 = some (.ldc 144, 2) := by decide +kernel
theorem c189_29 : mc_cd 189 29 = some (.invokevirtual 114, 3) := by decide +kernel
theorem c189_32 : mc_cd 189 32 = some (.ifCond .ne 30, 3) := by decide +kernel
theorem c189_35 : mc_cd 189 35 = some (.aload_n 0, 1) := by decide +kernel
theorem c189_36 : mc_cd 189 36 = some (.ldc 146, 2) := by decide +kernel
theorem c189_38 : mc_cd 189 38 = some (.invokevirtual 114, 3) := by decide +kernel
theorem c189_41 : mc_cd 189 41 = some (.ifCond .ne 21, 3) := by decide +kernel
theorem c189_44 : mc_cd 189 44 = some (.aload_n 0, 1) := by decide +kernel
theorem c189_45 : mc_cd 189 45 = some (.ldc 148, 2) := by decide +kernel
theorem c189_47 : mc_cd 189 47 = some (.invokevirtual 114, 3) := by decide +kernel
theorem c189_50 : mc_cd 189 50 = some (.ifCond .ne 12, 3) := by decide +kernel
theorem c189_53 : mc_cd 189 53 = some (.aload_n 0, 1) := by decide +kernel
theorem c189_54 : mc_cd 189 54 = some (.ldc 150, 2) := by decide +kernel
theorem c189_56 : mc_cd 189 56 = some (.invokevirtual 114, 3) := by decide +kernel
theorem c189_59 : mc_cd 189 59 = some (.ifCond .eq 5, 3) := by decide +kernel
theorem c189_62 : mc_cd 189 62 = some (.iconst 0, 1) := by decide +kernel
theorem c189_63 : mc_cd 189 63 = some (.ireturn, 1) := by decide +kernel
theorem c189_64 : mc_cd 189 64 = some (.aload_n 0, 1) := by decide +kernel
theorem c189_65 : mc_cd 189 65 = some (.ldc 152, 2) := by decide +kernel
theorem c189_67 : mc_cd 189 67 = some (.invokevirtual 114, 3) := by decide +kernel
theorem c189_70 : mc_cd 189 70 = some (.ifCond .ne 43, 3) := by decide +kernel
theorem c189_73 : mc_cd 189 73 = some (.aload_n 0, 1) := by decide +kernel
theorem c189_74 : mc_cd 189 74 = some (.ldc 154, 2) := by decide +kernel
theorem c189_76 : mc_cd 189 76 = some (.invokevirtual 114, 3) := by decide +kernel
theorem c189_79 : mc_cd 189 79 = some (.ifCond .ne 34, 3) := by decide +kernel
theorem c189_82 : mc_cd 189 82 = some (.aload_n 0, 1) := by decide +kernel
theorem c189_83 : mc_cd 189 83 = some (.ldc 156, 2) := by decide +kernel
theorem c189_85 : mc_cd 189 85 = some (.invokevirtual 114, 3) := by decide +kernel
theorem c189_88 : mc_cd 189 88 = some (.ifCond .ne 25, 3) := by decide +kernel
theorem c189_91 : mc_cd 189 91 = some (.aload_n 0, 1) := by decide +kernel
theorem c189_92 : mc_cd 189 92 = some (.ldc 158, 2) := by decide +kernel
theorem c189_94 : mc_cd 189 94 = some (.invokevirtual 114, 3) := by decide +kernel
theorem c189_97 : mc_cd 189 97 = some (.ifCond .ne 16, 3) := by decide +kernel
theorem c189_100 : mc_cd 189 100 = some (.aload_n 0, 1) := by decide +kernel
theorem c189_101 : mc_cd 189 101 = some (.ldc 160, 2) := by decide +kernel
theorem c189_103 : mc_cd 189 103 = some (.invokevirtual 114, 3) := by decide +kernel
theorem c189_106 : mc_cd 189 106 = some (.ifCond .ne 7, 3) := by decide +kernel
theorem c189_109 : mc_cd 189 109 = some (.iconst 1, 1) := by decide +kernel
theorem c189_110 : mc_cd 189 110 = some (.goto 4, 3) := by decide +kernel
theorem c189_113 : mc_cd 189 113 = some (.iconst 0, 1) := by decide +kernel
theorem c189_114 : mc_cd 189 114 = some (.ireturn, 1) := by decide +kernel
abbrev q_189 (r0 : Nat) (T : wq_T) (H : wq_H) : Option Value → wq_T → wq_H → Prop := fun r T' H' => T = T' ∧ H = H' ∧ ∃ z : Int, some (vI z) = r ∧ (0 ≤ z ∧ z ≤ 1)
set_option maxHeartbeats 4000000 in
theorem s_189 {kt : Nat → Option mc_E} {T : wq_T} {H : wq_H} {r0 : Nat} (hW : WT T H) (g0 : T.2.2.2 r0 = some 42) : wpc kt 3 189 [.ref r0] T H (q_189 r0 T H) := by
  refine wp_enter e189 (Nat.le_of_ble_eq_true rfl) rfl ?_
  show wp _ _ 189 0 [(0, .ref r0)] [] _ H _
  refine wp_of e189 c189_0 (rw_aload_n (pc' := 1) (v := .ref r0) rfl rfl rfl ?_)
  refine wp_of e189 c189_1 (xg_I (pc' := 4) lf_9_75 hW g0 sh_42 (by decide) (by decide) ty_42_9 rfl rfl (fun b86154 b86155 => ?_))
  refine wp_of e189 c189_4 (rw_iconst (pc' := 5) rfl ?_)
  refine wp_of e189 c189_5 (rw_icmp_ne (p1 := 62) (p2 := 8) (by decide) rfl ⟨by omega, by omega⟩ ⟨by omega, by omega⟩ (fun c86156 => ?_) (fun c86156 => ?_))
  · refine wp_of e189 c189_62 (rw_iconst (pc' := 63) rfl ?_)
    exact wp_zreturn e189 c189_63 rfl (by omega) ⟨rfl, rfl, 0, rfl, ⟨by omega, by omega⟩⟩
  · refine wp_of e189 c189_8 (rw_aload_n (pc' := 9) (v := .ref r0) rfl rfl rfl ?_)
    refine wp_of e189 c189_9 (rw_ldcS (pc' := 11) (k := 72) rfl rfl rfl rfl ?_)
    refine wp_of e189 c189_11 (xc_V (pc' := 14) (r := r0) (as := [.ref 72]) (st := []) (lm_9_114) rfl rfl (Nat.le_of_ble_eq_true rfl) hW g0 sh_42 (by decide) rfl (by decide) (s_178 hW g0 rfl) (fun R86157 T86158 H86159 p86160 => ?_))
    obtain ⟨e86161, e86163, z86164, e86162, b86165⟩ := p86160
    subst e86161
    subst e86162
    subst e86163
    show wp _ _ 189 14 [(0, .ref r0)] [vI z86164] _ H _
    refine wp_of e189 c189_14 (rw_if_ne (p1 := 62) (p2 := 17) (by decide) rfl ⟨by omega, by omega⟩ (fun c86166 => ?_) (fun c86166 => ?_))
    · refine wp_of e189 c189_62 (rw_iconst (pc' := 63) rfl ?_)
      exact wp_zreturn e189 c189_63 rfl (by omega) ⟨rfl, rfl, 0, rfl, ⟨by omega, by omega⟩⟩
    · refine wp_of e189 c189_17 (rw_aload_n (pc' := 18) (v := .ref r0) rfl rfl rfl ?_)
      refine wp_of e189 c189_18 (rw_ldcS (pc' := 20) (k := 76) rfl rfl rfl rfl ?_)
      refine wp_of e189 c189_20 (xc_V (pc' := 23) (r := r0) (as := [.ref 76]) (st := []) (lm_9_114) rfl rfl (Nat.le_of_ble_eq_true rfl) hW g0 sh_42 (by decide) rfl (by decide) (s_178 hW g0 rfl) (fun R86167 T86168 H86169 p86170 => ?_))
      obtain ⟨e86171, e86173, z86174, e86172, b86175⟩ := p86170
      subst e86171
      subst e86172
      subst e86173
      show wp _ _ 189 23 [(0, .ref r0)] [vI z86174] _ H _
      refine wp_of e189 c189_23 (rw_if_ne (p1 := 62) (p2 := 26) (by decide) rfl ⟨by omega, by omega⟩ (fun c86176 => ?_) (fun c86176 => ?_))
      · refine wp_of e189 c189_62 (rw_iconst (pc' := 63) rfl ?_)
        exact wp_zreturn e189 c189_63 rfl (by omega) ⟨rfl, rfl, 0, rfl, ⟨by omega, by omega⟩⟩
      · refine wp_of e189 c189_26 (rw_aload_n (pc' := 27) (v := .ref r0) rfl rfl rfl ?_)
        refine wp_of e189 c189_27 (rw_ldcS (pc' := 29) (k := 77) rfl rfl rfl rfl ?_)
        refine wp_of e189 c189_29 (xc_V (pc' := 32) (r := r0) (as := [.ref 77]) (st := []) (lm_9_114) rfl rfl (Nat.le_of_ble_eq_true rfl) hW g0 sh_42 (by decide) rfl (by decide) (s_178 hW g0 rfl) (fun R86177 T86178 H86179 p86180 => ?_))
        obtain ⟨e86181, e86183, z86184, e86182, b86185⟩ := p86180
        subst e86181
        subst e86182
        subst e86183
        show wp _ _ 189 32 [(0, .ref r0)] [vI z86184] _ H _
        refine wp_of e189 c189_32 (rw_if_ne (p1 := 62) (p2 := 35) (by decide) rfl ⟨by omega, by omega⟩ (fun c86186 => ?_) (fun c86186 => ?_))
        · refine wp_of e189 c189_62 (rw_iconst (pc' := 63) rfl ?_)
          exact wp_zreturn e189 c189_63 rfl (by omega) ⟨rfl, rfl, 0, rfl, ⟨by omega, by omega⟩⟩
        · refine wp_of e189 c189_35 (rw_aload_n (pc' := 36) (v := .ref r0) rfl rfl rfl ?_)
          refine wp_of e189 c189_36 (rw_ldcS (pc' := 38) (k := 78) rfl rfl rfl rfl ?_)
          refine wp_of e189 c189_38 (xc_V (pc' := 41) (r := r0) (as := [.ref 78]) (st := []) (lm_9_114) rfl rfl (Nat.le_of_ble_eq_true rfl) hW g0 sh_42 (by decide) rfl (by decide) (s_178 hW g0 rfl) (fun R86187 T86188 H86189 p86190 => ?_))
          obtain ⟨e86191, e86193, z86194, e86192, b86195⟩ := p86190
          subst e86191
          subst e86192
          subst e86193
          show wp _ _ 189 41 [(0, .ref r0)] [vI z86194] _ H _
          refine wp_of e189 c189_41 (rw_if_ne (p1 := 62) (p2 := 44) (by decide) rfl ⟨by omega, by omega⟩ (fun c86196 => ?_) (fun c86196 => ?_))
          · refine wp_of e189 c189_62 (rw_iconst (pc' := 63) rfl ?_)
            exact wp_zreturn e189 c189_63 rfl (by omega) ⟨rfl, rfl, 0, rfl, ⟨by omega, by omega⟩⟩
          · refine wp_of e189 c189_44 (rw_aload_n (pc' := 45) (v := .ref r0) rfl rfl rfl ?_)
            refine wp_of e189 c189_45 (rw_ldcS (pc' := 47) (k := 79) rfl rfl rfl rfl ?_)
            refine wp_of e189 c189_47 (xc_V (pc' := 50) (r := r0) (as := [.ref 79]) (st := []) (lm_9_114) rfl rfl (Nat.le_of_ble_eq_true rfl) hW g0 sh_42 (by decide) rfl (by decide) (s_178 hW g0 rfl) (fun R86197 T86198 H86199 p86200 => ?_))
            obtain ⟨e86201, e86203, z86204, e86202, b86205⟩ := p86200
            subst e86201
            subst e86202
            subst e86203
            show wp _ _ 189 50 [(0, .ref r0)] [vI z86204] _ H _
            refine wp_of e189 c189_50 (rw_if_ne (p1 := 62) (p2 := 53) (by decide) rfl ⟨by omega, by omega⟩ (fun c86206 => ?_) (fun c86206 => ?_))
            · refine wp_of e189 c189_62 (rw_iconst (pc' := 63) rfl ?_)
              exact wp_zreturn e189 c189_63 rfl (by omega) ⟨rfl, rfl, 0, rfl, ⟨by omega, by omega⟩⟩
            · refine wp_of e189 c189_53 (rw_aload_n (pc' := 54) (v := .ref r0) rfl rfl rfl ?_)
              refine wp_of e189 c189_54 (rw_ldcS (pc' := 56) (k := 80) rfl rfl rfl rfl ?_)
              refine wp_of e189 c189_56 (xc_V (pc' := 59) (r := r0) (as := [.ref 80]) (st := []) (lm_9_114) rfl rfl (Nat.le_of_ble_eq_true rfl) hW g0 sh_42 (by decide) rfl (by decide) (s_178 hW g0 rfl) (fun R86207 T86208 H86209 p86210 => ?_))
              obtain ⟨e86211, e86213, z86214, e86212, b86215⟩ := p86210
              subst e86211
              subst e86212
              subst e86213
              show wp _ _ 189 59 [(0, .ref r0)] [vI z86214] _ H _
              refine wp_of e189 c189_59 (rw_if_eq (p1 := 64) (p2 := 62) (by decide) rfl ⟨by omega, by omega⟩ (fun c86216 => ?_) (fun c86216 => ?_))
              · refine wp_of e189 c189_64 (rw_aload_n (pc' := 65) (v := .ref r0) rfl rfl rfl ?_)
                refine wp_of e189 c189_65 (rw_ldcS (pc' := 67) (k := 81) rfl rfl rfl rfl ?_)
                refine wp_of e189 c189_67 (xc_V (pc' := 70) (r := r0) (as := [.ref 81]) (st := []) (lm_9_114) rfl rfl (Nat.le_of_ble_eq_true rfl) hW g0 sh_42 (by decide) rfl (by decide) (s_178 hW g0 rfl) (fun R86217 T86218 H86219 p86220 => ?_))
                obtain ⟨e86221, e86223, z86224, e86222, b86225⟩ := p86220
                subst e86221
                subst e86222
                subst e86223
                show wp _ _ 189 70 [(0, .ref r0)] [vI z86224] _ H _
                refine wp_of e189 c189_70 (rw_if_ne (p1 := 113) (p2 := 73) (by decide) rfl ⟨by omega, by omega⟩ (fun c86226 => ?_) (fun c86226 => ?_))
                · refine wp_of e189 c189_113 (rw_iconst (pc' := 114) rfl ?_)
                  exact wp_zreturn e189 c189_114 rfl (by omega) ⟨rfl, rfl, 0, rfl, ⟨by omega, by omega⟩⟩
                · refine wp_of e189 c189_73 (rw_aload_n (pc' := 74) (v := .ref r0) rfl rfl rfl ?_)
                  refine wp_of e189 c189_74 (rw_ldcS (pc' := 76) (k := 82) rfl rfl rfl rfl ?_)
                  refine wp_of e189 c189_76 (xc_V (pc' := 79) (r := r0) (as := [.ref 82]) (st := []) (lm_9_114) rfl rfl (Nat.le_of_ble_eq_true rfl) hW g0 sh_42 (by decide) rfl (by decide) (s_178 hW g0 rfl) (fun R86227 T86228 H86229 p86230 => ?_))
                  obtain ⟨e86231, e86233, z86234, e86232, b86235⟩ := p86230
                  subst e86231
                  subst e86232
                  subst e86233
                  show wp _ _ 189 79 [(0, .ref r0)] [vI z86234] _ H _
                  refine wp_of e189 c189_79 (rw_if_ne (p1 := 113) (p2 := 82) (by decide) rfl ⟨by omega, by omega⟩ (fun c86236 => ?_) (fun c86236 => ?_))
                  · refine wp_of e189 c189_113 (rw_iconst (pc' := 114) rfl ?_)
                    exact wp_zreturn e189 c189_114 rfl (by omega) ⟨rfl, rfl, 0, rfl, ⟨by omega, by omega⟩⟩
                  · refine wp_of e189 c189_82 (rw_aload_n (pc' := 83) (v := .ref r0) rfl rfl rfl ?_)
                    refine wp_of e189 c189_83 (rw_ldcS (pc' := 85) (k := 83) rfl rfl rfl rfl ?_)
                    refine wp_of e189 c189_85 (xc_V (pc' := 88) (r := r0) (as := [.ref 83]) (st := []) (lm_9_114) rfl rfl (Nat.le_of_ble_eq_true rfl) hW g0 sh_42 (by decide) rfl (by decide) (s_178 hW g0 rfl) (fun R86237 T86238 H86239 p86240 => ?_))
                    obtain ⟨e86241, e86243, z86244, e86242, b86245⟩ := p86240
                    subst e86241
                    subst e86242
                    subst e86243
                    show wp _ _ 189 88 [(0, .ref r0)] [vI z86244] _ H _
                    refine wp_of e189 c189_88 (rw_if_ne (p1 := 113) (p2 := 91) (by decide) rfl ⟨by omega, by omega⟩ (fun c86246 => ?_) (fun c86246 => ?_))
                    · refine wp_of e189 c189_113 (rw_iconst (pc' := 114) rfl ?_)
                      exact wp_zreturn e189 c189_114 rfl (by omega) ⟨rfl, rfl, 0, rfl, ⟨by omega, by omega⟩⟩
                    · refine wp_of e189 c189_91 (rw_aload_n (pc' := 92) (v := .ref r0) rfl rfl rfl ?_)
                      refine wp_of e189 c189_92 (rw_ldcS (pc' := 94) (k := 84) rfl rfl rfl rfl ?_)
                      refine wp_of e189 c189_94 (xc_V (pc' := 97) (r := r0) (as := [.ref 84]) (st := []) (lm_9_114) rfl rfl (Nat.le_of_ble_eq_true rfl) hW g0 sh_42 (by decide) rfl (by decide) (s_178 hW g0 rfl) (fun R86247 T86248 H86249 p86250 => ?_))
                      obtain ⟨e86251, e86253, z86254, e86252, b86255⟩ := p86250
                      subst e86251
                      subst e86252
                      subst e86253
                      show wp _ _ 189 97 [(0, .ref r0)] [vI z86254] _ H _
                      refine wp_of e189 c189_97 (rw_if_ne (p1 := 113) (p2 := 100) (by decide) rfl ⟨by omega, by omega⟩ (fun c86256 => ?_) (fun c86256 => ?_))
                      · refine wp_of e189 c189_113 (rw_iconst (pc' := 114) rfl ?_)
                        exact wp_zreturn e189 c189_114 rfl (by omega) ⟨rfl, rfl, 0, rfl, ⟨by omega, by omega⟩⟩
                      · refine wp_of e189 c189_100 (rw_aload_n (pc' := 101) (v := .ref r0) rfl rfl rfl ?_)
                        refine wp_of e189 c189_101 (rw_ldcS (pc' := 103) (k := 85) rfl rfl rfl rfl ?_)
                        refine wp_of e189 c189_103 (xc_V (pc' := 106) (r := r0) (as := [.ref 85]) (st := []) (lm_9_114) rfl rfl (Nat.le_of_ble_eq_true rfl) hW g0 sh_42 (by decide) rfl (by decide) (s_178 hW g0 rfl) (fun R86257 T86258 H86259 p86260 => ?_))
                        obtain ⟨e86261, e86263, z86264, e86262, b86265⟩ := p86260
                        subst e86261
                        subst e86262
                        subst e86263
                        show wp _ _ 189 106 [(0, .ref r0)] [vI z86264] _ H _
                        refine wp_of e189 c189_106 (rw_if_ne (p1 := 113) (p2 := 109) (by decide) rfl ⟨by omega, by omega⟩ (fun c86266 => ?_) (fun c86266 => ?_))
                        · refine wp_of e189 c189_113 (rw_iconst (pc' := 114) rfl ?_)
                          exact wp_zreturn e189 c189_114 rfl (by omega) ⟨rfl, rfl, 0, rfl, ⟨by omega, by omega⟩⟩
                        · refine wp_of e189 c189_109 (rw_iconst (pc' := 110) rfl ?_)
                          refine wp_of e189 c189_110 (rw_goto (p1 := 114) (by decide) ?_)
                          exact wp_zreturn e189 c189_114 rfl (by omega) ⟨rfl, rfl, 1, rfl, ⟨by omega, by omega⟩⟩
              · refine wp_of e189 c189_62 (rw_iconst (pc' := 63) rfl ?_)
                exact wp_zreturn e189 c189_63 rfl (by omega) ⟨rfl, rfl, 0, rfl, ⟨by omega, by omega⟩⟩
/-! StrikeAwakeModel$Parish.find(J)I -/
theorem e190 : wq_en 190 = some (10, 4, false, some FieldType.int) := rfl
theorem c190_0 : mc_cd 190 0 = some (.iconst 0, 1) := by decide +kernel
theorem c190_1 : mc_cd 190 1 = some (.istore_n 3, 1) := by decide +kernel
theorem c190_2 : mc_cd 190 2 = some (.iload_n 3, 1) := by decide +kernel
theorem c190_3 : mc_cd 190 3 = some (.aload_n 0, 1) := by decide +kernel
theorem c190_4 : mc_cd 190 4 = some (.getfield 72, 3) := by decide +kernel
theorem c190_7 : mc_cd 190 7 = some (.if_icmp .ge 22, 3) := by decide +kernel
theorem c190_10 : mc_cd 190 10 = some (.aload_n 0, 1) := by decide +kernel
theorem c190_11 : mc_cd 190 11 = some (.getfield 15, 3) := by decide +kernel
theorem c190_14 : mc_cd 190 14 = some (.iload_n 3, 1) := by decide +kernel
theorem c190_15 : mc_cd 190 15 = some (.laload, 1) := by decide +kernel
theorem c190_16 : mc_cd 190 16 = some (.lload_n 1, 1) := by decide +kernel
theorem c190_17 : mc_cd 190 17 = some (.lcmp, 1) := by decide +kernel
theorem c190_18 : mc_cd 190 18 = some (.ifCond .ne 5, 3) := by decide +kernel
theorem c190_21 : mc_cd 190 21 = some (.iload_n 3, 1) := by decide +kernel
theorem c190_22 : mc_cd 190 22 = some (.ireturn, 1) := by decide +kernel
theorem c190_23 : mc_cd 190 23 = some (.iinc 3 1, 3) := by decide +kernel
theorem c190_26 : mc_cd 190 26 = some (.goto (-24), 3) := by decide +kernel
theorem c190_29 : mc_cd 190 29 = some (.iconst (-1), 1) := by decide +kernel
theorem c190_30 : mc_cd 190 30 = some (.ireturn, 1) := by decide +kernel
abbrev q_190 (r0 : Nat) (a1 : Int) (T : wq_T) (H : wq_H) : Option Value → wq_T → wq_H → Prop := fun r T' H' => T = T' ∧ H = H' ∧ ∃ z : Int, some (vI z) = r ∧ ((-1) ≤ z ∧ z ≤ 5)
set_option maxHeartbeats 4000000 in
theorem s_190 {kt : Nat → Option mc_E} {T : wq_T} {H : wq_H} {r0 : Nat} {a1 : Int} (hW : WT T H) (g0 : T.2.2.2 r0 = some 54) (i1 : (-9223372036854775808) ≤ a1 ∧ a1 ≤ 9223372036854775807) : wpc kt 1 190 [.ref r0, vL a1] T H (q_190 r0 a1 T H) := by
  refine wp_enter e190 (Nat.le_of_ble_eq_true rfl) rfl ?_
  show wp _ _ 190 0 [(0, .ref r0), (1, vL a1)] [] _ H _
  refine wp_of e190 c190_0 (rw_iconst (pc' := 1) rfl ?_)
  refine wp_of e190 c190_1 (rw_istore_n (pc' := 2) (z := 0) (L' := [(3, vI 0), (0, .ref r0), (1, vL a1)]) rfl rfl rfl ?_)
  have lp86418 : ∀ (n86419 : Nat) (v86421 : Int), (0 ≤ v86421 ∧ v86421 ≤ 6) → (6 - v86421).toNat = n86419 → wp kt 0 190 2 [(3, vI v86421), (0, .ref r0), (1, vL a1)] [] T H (q_190 r0 a1 T H) := by
    intro n86419
    induction n86419 using Nat.strongRecOn with
    | _ n86419 ih86420 =>
      intro v86421 b86424 m86425
      refine wp_of e190 c190_2 (rw_iload_n (pc' := 3) (z := v86421) rfl rfl ?_)
      refine wp_of e190 c190_3 (rw_aload_n (pc' := 4) (v := .ref r0) rfl rfl rfl ?_)
      refine wp_of e190 c190_4 (xg_I (pc' := 7) lf_10_72 hW g0 sh_54 (by decide) (by decide) ty_54_3 rfl rfl (fun b86426 b86427 => ?_))
      refine wp_of e190 c190_7 (rw_icmp_ge (p1 := 29) (p2 := 10) (by decide) rfl ⟨by omega, by omega⟩ ⟨by omega, by omega⟩ (fun c86428 => ?_) (fun c86428 => ?_))
      · refine wp_of e190 c190_29 (rw_iconst (pc' := 30) rfl ?_)
        exact wp_ireturn e190 c190_30 rfl ⟨rfl, rfl, -1, rfl, ⟨by omega, by omega⟩⟩
      · refine wp_of e190 c190_10 (rw_aload_n (pc' := 11) (v := .ref r0) rfl rfl rfl ?_)
        refine wp_of e190 c190_11 (xg_R (pc' := 14) lf_10_15 hW g0 sh_54 (by decide) (by decide) ty_54_9 rfl rfl (fun r86429 q86430 g86431 => ?_))
        refine wp_of e190 c190_14 (rw_iload_n (pc' := 15) (z := v86421) rfl rfl ?_)
        refine wp_of e190 c190_15 (xa_L (pc' := 16) hW g86431 sh_55 (by decide) (ty_55 _) (by omega) (by omega) rfl (fun b86432 b86433 => ?_))
        refine wp_of e190 c190_16 (rw_lload_n (pc' := 17) (z := a1) rfl rfl ?_)
        refine wp_of e190 c190_17 (rw_lcmp (pc' := 18) rfl ⟨by omega, by omega⟩ ⟨by omega, by omega⟩ ?_)
        have b86434 := wq_cmp_b (H r86429 (v86421.toNat)) a1
        refine wp_of e190 c190_18 (rw_if_ne (p1 := 23) (p2 := 21) (by decide) rfl ⟨by omega, by omega⟩ (fun c86435 => ?_) (fun c86435 => ?_))
        · refine wp_of e190 c190_23 (rw_iinc (pc' := 26) (z := v86421) (L' := [(3, vI (v86421 + 1)), (0, .ref r0), (1, vL a1)]) rfl rfl rfl rfl ?_)
          refine wp_of e190 c190_26 (rw_goto (p1 := 2) (by decide) ?_)
          exact wp_lc (ks := [3, 0, 1]) (wl_c rfl (wl_c rfl (wl_c rfl wl_n))) rfl (by decide) (ih86420 _ (by omega) (v86421 + 1) ⟨by omega, by omega⟩ rfl)
        · refine wp_of e190 c190_21 (rw_iload_n (pc' := 22) (z := v86421) rfl rfl ?_)
          exact wp_ireturn e190 c190_22 rfl ⟨rfl, rfl, v86421, rfl, ⟨by omega, by omega⟩⟩
  exact wp_lc (ks := [3, 0, 1]) (wl_c rfl (wl_c rfl (wl_c rfl wl_n))) rfl (by decide) (lp86418 _ 0 ⟨by omega, by omega⟩ rfl)
/-! StrikeAwakeModel.least(II)I -/
theorem e191 : wq_en 191 = some (9, 2, false, some FieldType.int) := rfl
theorem c191_0 : mc_cd 191 0 = some (.iload_n 0, 1) := by decide +kernel
theorem c191_1 : mc_cd 191 1 = some (.iload_n 1, 1) := by decide +kernel
theorem c191_2 : mc_cd 191 2 = some (.if_icmp .ge 7, 3) := by decide +kernel
theorem c191_5 : mc_cd 191 5 = some (.iload_n 0, 1) := by decide +kernel
theorem c191_6 : mc_cd 191 6 = some (.goto 4, 3) := by decide +kernel
theorem c191_9 : mc_cd 191 9 = some (.iload_n 1, 1) := by decide +kernel
theorem c191_10 : mc_cd 191 10 = some (.ireturn, 1) := by decide +kernel
abbrev q_191 (a0 : Int) (a1 : Int) (T : wq_T) (H : wq_H) : Option Value → wq_T → wq_H → Prop := fun r T' H' => T = T' ∧ H = H' ∧ ∃ z : Int, some (vI z) = r ∧ (0 ≤ z ∧ z ≤ 100) ∧ (z ≤ a0 ∧ z ≤ a1)
set_option maxHeartbeats 4000000 in
theorem s_191 {kt : Nat → Option mc_E} {T : wq_T} {H : wq_H} {a0 : Int} {a1 : Int} (hW : WT T H) (i0 : 0 ≤ a0 ∧ a0 ≤ 100) (i1 : 0 ≤ a1 ∧ a1 ≤ 100) : wpc kt 1 191 [vI a0, vI a1] T H (q_191 a0 a1 T H) := by
  refine wp_enter e191 (Nat.le_of_ble_eq_true rfl) rfl ?_
  show wp _ _ 191 0 [(0, vI a0), (1, vI a1)] [] _ H _
  refine wp_of e191 c191_0 (rw_iload_n (pc' := 1) (z := a0) rfl rfl ?_)
  refine wp_of e191 c191_1 (rw_iload_n (pc' := 2) (z := a1) rfl rfl ?_)
  refine wp_of e191 c191_2 (rw_icmp_ge (p1 := 9) (p2 := 5) (by decide) rfl ⟨by omega, by omega⟩ ⟨by omega, by omega⟩ (fun c86437 => ?_) (fun c86437 => ?_))
  · refine wp_of e191 c191_9 (rw_iload_n (pc' := 10) (z := a1) rfl rfl ?_)
    exact wp_ireturn e191 c191_10 rfl ⟨rfl, rfl, a1, rfl, ⟨by omega, by omega⟩, by omega⟩
  · refine wp_of e191 c191_5 (rw_iload_n (pc' := 6) (z := a0) rfl rfl ?_)
    refine wp_of e191 c191_6 (rw_goto (p1 := 10) (by decide) ?_)
    exact wp_ireturn e191 c191_10 rfl ⟨rfl, rfl, a0, rfl, ⟨by omega, by omega⟩, by omega⟩
/-! StrikeAwakeModel.eatsWord(Ljava/lang/String;)Z -/
theorem e192 : wq_en 192 = some (9, 3, false, some FieldType.boolean) := rfl
theorem c192_0 : mc_cd 192 0 = some (.aload_n 0, 1) := by decide +kernel
theorem c192_1 : mc_cd 192 1 = some (.aload_n 1, 1) := by decide +kernel
theorem c192_2 : mc_cd 192 2 = some (.invokevirtual 114, 3) := by decide +kernel
theorem c192_5 : mc_cd 192 5 = some (.istore_n 2, 1) := by decide +kernel
theorem c192_6 : mc_cd 192 6 = some (.iload_n 2, 1) := by decide +kernel
theorem c192_7 : mc_cd 192 7 = some (.ifCond .eq 7, 3) := by decide +kernel
theorem c192_10 : mc_cd 192 10 = some (.aload_n 0, 1) := by decide +kernel
theorem c192_11 : mc_cd 192 11 = some (.invokevirtual 118, 3) := by decide +kernel
theorem c192_14 : mc_cd 192 14 = some (.iload_n 2, 1) := by decide +kernel
theorem c192_15 : mc_cd 192 15 = some (.ireturn, 1) := by decide +kernel
abbrev q_192 (r0 : Nat) (s1 : Nat) (T : wq_T) (H : wq_H) : Option Value → wq_T → wq_H → Prop := fun r T' H' => T = T' ∧ WT T H' ∧ wfr [(42, 8), (42, 9), (42, 10), (42, 11), (42, 12), (42, 15)] T H H' ∧ ∃ z : Int, some (vI z) = r ∧ (0 ≤ z ∧ z ≤ 1) ∧ (wJ H' r0 = 1) ∧ (H r0 10 ≤ H' r0 10) ∧ (wOV H r0 ≤ wOV H' r0) ∧ (wOV H' r0 ≤ 1)
set_option maxHeartbeats 4000000 in
theorem s_192 {kt : Nat → Option mc_E} {T : wq_T} {H : wq_H} {r0 : Nat} {s1 : Nat} {t1 : List Int32} (hW : WT T H) (g0 : T.2.2.2 r0 = some 42) (h1 : mc_find mc_sb s1 = some t1) (p0 : wJ H r0 = 1) : wpc kt 3 192 [.ref r0, .ref s1] T H (q_192 r0 s1 T H) := by
  refine wp_enter e192 (Nat.le_of_ble_eq_true rfl) rfl ?_
  have f0 : wfr [(42, 8), (42, 9), (42, 10), (42, 11), (42, 12), (42, 15)] T H H := wfr.rf
  show wp _ _ 192 0 [(0, .ref r0), (1, .ref s1)] [] _ H _
  have hb0 := wOV_b (H := H) (m := r0)
  refine wp_of e192 c192_0 (rw_aload_n (pc' := 1) (v := .ref r0) rfl rfl rfl ?_)
  refine wp_of e192 c192_1 (rw_aload_n (pc' := 2) (v := .ref s1) rfl rfl rfl ?_)
  refine wp_of e192 c192_2 (xc_V (pc' := 5) (r := r0) (as := [.ref s1]) (st := []) (lm_9_114) rfl rfl (Nat.le_of_ble_eq_true rfl) hW g0 sh_42 (by decide) rfl (by decide) (s_178 hW g0 h1) (fun R86463 T86464 H86465 p86466 => ?_))
  obtain ⟨e86467, e86469, z86470, e86468, b86471⟩ := p86466
  subst e86467
  subst e86468
  subst e86469
  show wp _ _ 192 5 [(0, .ref r0), (1, .ref s1)] [vI z86470] _ H _
  refine wp_of e192 c192_5 (rw_istore_n (pc' := 6) (z := z86470) (L' := [(2, vI z86470), (0, .ref r0), (1, .ref s1)]) rfl rfl rfl ?_)
  refine wp_of e192 c192_6 (rw_iload_n (pc' := 7) (z := z86470) rfl rfl ?_)
  refine wp_of e192 c192_7 (rw_if_eq (p1 := 14) (p2 := 10) (by decide) rfl ⟨by omega, by omega⟩ (fun c86472 => ?_) (fun c86472 => ?_))
  · refine wp_of e192 c192_14 (rw_iload_n (pc' := 15) (z := z86470) rfl rfl ?_)
    exact wp_zreturn e192 c192_15 rfl (by omega) ⟨rfl, hW, f0, z86470, rfl, ⟨by omega, by omega⟩, by omega, by omega, by omega, by omega⟩
  · refine wp_of e192 c192_10 (rw_aload_n (pc' := 11) (v := .ref r0) rfl rfl rfl ?_)
    refine wp_of e192 c192_11 (xc_V (pc' := 14) (r := r0) (as := []) (st := []) (lm_9_118) rfl rfl (Nat.le_of_ble_eq_true rfl) hW g0 sh_42 (by decide) rfl (by decide) (s_172 hW g0 (by omega)) (fun R86473 T86474 H86475 p86476 => ?_))
    obtain ⟨e86477, w86479, f86480, e86478, p86481, p86482, p86483, p86484, p86485, p86486⟩ := p86476
    subst e86477
    subst e86478
    have f86487 := f0.tr f86480 rfl
    show wp _ _ 192 14 [(2, vI z86470), (0, .ref r0), (1, .ref s1)] [] _ H86475 _
    refine wp_of e192 c192_14 (rw_iload_n (pc' := 15) (z := z86470) rfl rfl ?_)
    exact wp_zreturn e192 c192_15 rfl (by omega) ⟨rfl, w86479, f86487, z86470, rfl, ⟨by omega, by omega⟩, by omega, by omega, by omega, by omega⟩
/-! StrikeAwakeModel.readPerson()V -/
theorem e187 : wq_en 187 = some (9, 13, false, none) := rfl
theorem c187_0 : mc_cd 187 0 = some (.aload_n 0, 1) := by decide +kernel
theorem c187_1 : mc_cd 187 1 = some (.aload_n 0, 1) := by decide +kernel
theorem c187_2 : mc_cd 187 2 = some (.getfield 166, 3) := by decide +kernel
theorem c187_5 : mc_cd 187 5 = some (.getfield 188, 3) := by decide +kernel
theorem c187_8 : mc_cd 187 8 = some (.bipush 6, 2) := by decide +kernel
theorem c187_10 : mc_cd 187 10 = some (.invokevirtual 228, 3) := by decide +kernel
theorem c187_13 : mc_cd 187 13 = some (.aload_n 0, 1) := by decide +kernel
theorem c187_14 : mc_cd 187 14 = some (.invokevirtual 162, 3) := by decide +kernel
theorem c187_17 : mc_cd 187 17 = some (.ifCond .ne 8, 3) := by decide +kernel
theorem c187_20 : mc_cd 187 20 = some (.aload_n 0, 1) := by decide +kernel
theorem c187_21 : mc_cd 187 21 = some (.iconst 1, 1) := by decide +kernel
theorem c187_22 : mc_cd 187 22 = some (.invokevirtual 121, 3) := by decide +kernel
theorem c187_25 : mc_cd 187 25 = some (.aload_n 0, 1) := by decide +kernel
theorem c187_26 : mc_cd 187 26 = some (.getfield 166, 3) := by decide +kernel
theorem c187_29 : mc_cd 187 29 = some (.aload_n 0, 1) := by decide +kernel
theorem c187_30 : mc_cd 187 30 = some (.getfield 94, 3) := by decide +kernel
theorem c187_33 : mc_cd 187 33 = some (.invokevirtual 170, 3) := by decide +kernel
theorem c187_36 : mc_cd 187 36 = some (.iconst (-1), 1) := by decide +kernel
theorem c187_37 : mc_cd 187 37 = some (.if_icmp .eq 8, 3) := by decide +kernel
theorem c187_40 : mc_cd 187 40 = some (.aload_n 0, 1) := by decide +kernel
theorem c187_41 : mc_cd 187 41 = some (.iconst 3, 1) := by decide +kernel
theorem c187_42 : mc_cd 187 42 = some (.invokevirtual 121, 3) := by decide +kernel
theorem c187_45 : mc_cd 187 45 = some (.aload_n 0, 1) := by decide +kernel
theorem c187_46 : mc_cd 187 46 = some (.getfield 94, 3) := by decide +kernel
theorem c187_49 : mc_cd 187 49 = some (.lstore_n 1, 1) := by decide +kernel
theorem c187_50 : mc_cd 187 50 = some (.aload_n 0, 1) := by decide +kernel
theorem c187_51 : mc_cd 187 51 = some (.invokevirtual 118, 3) := by decide +kernel
theorem c187_54 : mc_cd 187 54 = some (.aload_n 0, 1) := by decide +kernel
theorem c187_55 : mc_cd 187 55 = some (.ldc 232, 2) := by decide +kernel
theorem c187_57 : mc_cd 187 57 = some (.iconst 0, 1) := by decide +kernel
theorem c187_58 : mc_cd 187 58 = some (.bipush 23, 2) := by decide +kernel
theorem c187_60 : mc_cd 187 60 = some (.invokevirtual 216, 3) := by decide +kernel
theorem c187_63 : mc_cd 187 63 = some (.istore_n 3, 1) := by decide +kernel
theorem c187_64 : mc_cd 187 64 = some (.aload_n 0, 1) := by decide +kernel
theorem c187_65 : mc_cd 187 65 = some (.ldc 233, 2) := by decide +kernel
theorem c187_67 : mc_cd 187 67 = some (.iload_n 3, 1) := by decide +kernel
theorem c187_68 : mc_cd 187 68 = some (.bipush 23, 2) := by decide +kernel
theorem c187_70 : mc_cd 187 70 = some (.iload_n 3, 1) := by decide +kernel
theorem c187_71 : mc_cd 187 71 = some (.bipush 7, 2) := by decide +kernel
theorem c187_73 : mc_cd 187 73 = some (.iadd, 1) := by decide +kernel
theorem c187_74 : mc_cd 187 74 = some (.invokestatic 235, 3) := by decide +kernel
theorem c187_77 : mc_cd 187 77 = some (.invokevirtual 216, 3) := by decide +kernel
theorem c187_80 : mc_cd 187 80 = some (.istore 4, 2) := by decide +kernel
theorem c187_82 : mc_cd 187 82 = some (.aload_n 0, 1) := by decide +kernel
theorem c187_83 : mc_cd 187 83 = some (.ldc 238, 2) := by decide +kernel
theorem c187_85 : mc_cd 187 85 = some (.iconst 0, 1) := by decide +kernel
theorem c187_86 : mc_cd 187 86 = some (.bipush 12, 2) := by decide +kernel
theorem c187_88 : mc_cd 187 88 = some (.invokevirtual 216, 3) := by decide +kernel
theorem c187_91 : mc_cd 187 91 = some (.istore 5, 2) := by decide +kernel
theorem c187_93 : mc_cd 187 93 = some (.aload_n 0, 1) := by decide +kernel
theorem c187_94 : mc_cd 187 94 = some (.ldc 233, 2) := by decide +kernel
theorem c187_96 : mc_cd 187 96 = some (.iload 5, 2) := by decide +kernel
theorem c187_98 : mc_cd 187 98 = some (.bipush 12, 2) := by decide +kernel
theorem c187_100 : mc_cd 187 100 = some (.iload 5, 2) := by decide +kernel
theorem c187_102 : mc_cd 187 102 = some (.iconst 4, 1) := by decide +kernel
theorem c187_103 : mc_cd 187 103 = some (.iadd, 1) := by decide +kernel
theorem c187_104 : mc_cd 187 104 = some (.invokestatic 235, 3) := by decide +kernel
theorem c187_107 : mc_cd 187 107 = some (.invokevirtual 216, 3) := by decide +kernel
theorem c187_110 : mc_cd 187 110 = some (.istore 6, 2) := by decide +kernel
theorem c187_112 : mc_cd 187 112 = some (.aload_n 0, 1) := by decide +kernel
theorem c187_113 : mc_cd 187 113 = some (.ldc 156, 2) := by decide +kernel
theorem c187_115 : mc_cd 187 115 = some (.invokevirtual 240, 3) := by decide +kernel
theorem c187_118 : mc_cd 187 118 = some (.ifCond .eq 13, 3) := by decide +kernel
theorem c187_121 : mc_cd 187 121 = some (.aload_n 0, 1) := by decide +kernel
theorem c187_122 : mc_cd 187 122 = some (.iconst 0, 1) := by decide +kernel
theorem c187_123 : mc_cd 187 123 = some (.bipush 23, 2) := by decide +kernel
theorem c187_125 : mc_cd 187 125 = some (.invokevirtual 137, 3) := by decide +kernel
theorem c187_128 : mc_cd 187 128 = some (.goto 4, 3) := by decide +kernel
theorem c187_131 : mc_cd 187 131 = some (.iconst (-1), 1) := by decide +kernel
theorem c187_132 : mc_cd 187 132 = some (.istore 7, 2) := by decide +kernel
theorem c187_134 : mc_cd 187 134 = some (.aload_n 0, 1) := by decide +kernel
theorem c187_135 : mc_cd 187 135 = some (.ldc 158, 2) := by decide +kernel
theorem c187_137 : mc_cd 187 137 = some (.invokevirtual 240, 3) := by decide +kernel
theorem c187_140 : mc_cd 187 140 = some (.istore 8, 2) := by decide +kernel
theorem c187_142 : mc_cd 187 142 = some (.iload 8, 2) := by decide +kernel
theorem c187_144 : mc_cd 187 144 = some (.ifCond .eq 13, 3) := by decide +kernel
theorem c187_147 : mc_cd 187 147 = some (.aload_n 0, 1) := by decide +kernel
theorem c187_148 : mc_cd 187 148 = some (.iconst 0, 1) := by decide +kernel
theorem c187_149 : mc_cd 187 149 = some (.bipush 23, 2) := by decide +kernel
theorem c187_151 : mc_cd 187 151 = some (.invokevirtual 137, 3) := by decide +kernel
theorem c187_154 : mc_cd 187 154 = some (.goto 4, 3) := by decide +kernel
theorem c187_157 : mc_cd 187 157 = some (.iconst 0, 1) := by decide +kernel
theorem c187_158 : mc_cd 187 158 = some (.istore 9, 2) := by decide +kernel
theorem c187_160 : mc_cd 187 160 = some (.iload 8, 2) := by decide +kernel
theorem c187_162 : mc_cd 187 162 = some (.ifCond .eq 18, 3) := by decide +kernel
theorem c187_165 : mc_cd 187 165 = some (.aload_n 0, 1) := by decide +kernel
theorem c187_166 : mc_cd 187 166 = some (.ldc 233, 2) := by decide +kernel
theorem c187_168 : mc_cd 187 168 = some (.iload 9, 2) := by decide +kernel
theorem c187_170 : mc_cd 187 170 = some (.iconst 1, 1) := by decide +kernel
theorem c187_171 : mc_cd 187 171 = some (.iadd, 1) := by decide +kernel
theorem c187_172 : mc_cd 187 172 = some (.bipush 24, 2) := by decide +kernel
theorem c187_174 : mc_cd 187 174 = some (.invokevirtual 216, 3) := by decide +kernel
theorem c187_177 : mc_cd 187 177 = some (.goto 4, 3) := by decide +kernel
theorem c187_180 : mc_cd 187 180 = some (.iconst 0, 1) := by decide +kernel
theorem c187_181 : mc_cd 187 181 = some (.istore 10, 2) := by decide +kernel
theorem c187_183 : mc_cd 187 183 = some (.aload_n 0, 1) := by decide +kernel
theorem c187_184 : mc_cd 187 184 = some (.ldc 160, 2) := by decide +kernel
theorem c187_186 : mc_cd 187 186 = some (.invokevirtual 240, 3) := by decide +kernel
theorem c187_189 : mc_cd 187 189 = some (.istore 11, 2) := by decide +kernel
theorem c187_191 : mc_cd 187 191 = some (.aload_n 0, 1) := by decide +kernel
theorem c187_192 : mc_cd 187 192 = some (.getfield 75, 3) := by decide +kernel
theorem c187_195 : mc_cd 187 195 = some (.iconst 5, 1) := by decide +kernel
theorem c187_196 : mc_cd 187 196 = some (.if_icmp .ne 4, 3) := by decide +kernel
theorem c187_199 : mc_cd 187 199 = some (.return_, 1) := by decide +kernel
theorem c187_200 : mc_cd 187 200 = some (.aload_n 0, 1) := by decide +kernel
theorem c187_201 : mc_cd 187 201 = some (.getfield 166, 3) := by decide +kernel
theorem c187_204 : mc_cd 187 204 = some (.getfield 188, 3) := by decide +kernel
theorem c187_207 : mc_cd 187 207 = some (.istore 12, 2) := by decide +kernel
theorem c187_209 : mc_cd 187 209 = some (.aload_n 0, 1) := by decide +kernel
theorem c187_210 : mc_cd 187 210 = some (.getfield 166, 3) := by decide +kernel
theorem c187_213 : mc_cd 187 213 = some (.getfield 243, 3) := by decide +kernel
theorem c187_216 : mc_cd 187 216 = some (.iload 12, 2) := by decide +kernel
theorem c187_218 : mc_cd 187 218 = some (.lload_n 1, 1) := by decide +kernel
theorem c187_219 : mc_cd 187 219 = some (.lastore, 1) := by decide +kernel
theorem c187_220 : mc_cd 187 220 = some (.aload_n 0, 1) := by decide +kernel
theorem c187_221 : mc_cd 187 221 = some (.getfield 166, 3) := by decide +kernel
theorem c187_224 : mc_cd 187 224 = some (.getfield 247, 3) := by decide +kernel
theorem c187_227 : mc_cd 187 227 = some (.iload 12, 2) := by decide +kernel
theorem c187_229 : mc_cd 187 229 = some (.iload_n 3, 1) := by decide +kernel
theorem c187_230 : mc_cd 187 230 = some (.iastore, 1) := by decide +kernel
theorem c187_231 : mc_cd 187 231 = some (.aload_n 0, 1) := by decide +kernel
theorem c187_232 : mc_cd 187 232 = some (.getfield 166, 3) := by decide +kernel
theorem c187_235 : mc_cd 187 235 = some (.getfield 250, 3) := by decide +kernel
theorem c187_238 : mc_cd 187 238 = some (.iload 12, 2) := by decide +kernel
theorem c187_240 : mc_cd 187 240 = some (.iload 4, 2) := by decide +kernel
theorem c187_242 : mc_cd 187 242 = some (.iastore, 1) := by decide +kernel
theorem c187_243 : mc_cd 187 243 = some (.aload_n 0, 1) := by decide +kernel
theorem c187_244 : mc_cd 187 244 = some (.getfield 166, 3) := by decide +kernel
theorem c187_247 : mc_cd 187 247 = some (.getfield 253, 3) := by decide +kernel
theorem c187_250 : mc_cd 187 250 = some (.iload 12, 2) := by decide +kernel
theorem c187_252 : mc_cd 187 252 = some (.iload 5, 2) := by decide +kernel
theorem c187_254 : mc_cd 187 254 = some (.iastore, 1) := by decide +kernel
theorem c187_255 : mc_cd 187 255 = some (.aload_n 0, 1) := by decide +kernel
theorem c187_256 : mc_cd 187 256 = some (.getfield 166, 3) := by decide +kernel
theorem c187_259 : mc_cd 187 259 = some (.getfield 256, 3) := by decide +kernel
theorem c187_262 : mc_cd 187 262 = some (.iload 12, 2) := by decide +kernel
theorem c187_264 : mc_cd 187 264 = some (.iload 6, 2) := by decide +kernel
theorem c187_266 : mc_cd 187 266 = some (.iastore, 1) := by decide +kernel
theorem c187_267 : mc_cd 187 267 = some (.aload_n 0, 1) := by decide +kernel
theorem c187_268 : mc_cd 187 268 = some (.getfield 166, 3) := by decide +kernel
theorem c187_271 : mc_cd 187 271 = some (.getfield 259, 3) := by decide +kernel
theorem c187_274 : mc_cd 187 274 = some (.iload 12, 2) := by decide +kernel
theorem c187_276 : mc_cd 187 276 = some (.iload 7, 2) := by decide +kernel
theorem c187_278 : mc_cd 187 278 = some (.iastore, 1) := by decide +kernel
theorem c187_279 : mc_cd 187 279 = some (.aload_n 0, 1) := by decide +kernel
theorem c187_280 : mc_cd 187 280 = some (.getfield 166, 3) := by decide +kernel
theorem c187_283 : mc_cd 187 283 = some (.getfield 261, 3) := by decide +kernel
theorem c187_286 : mc_cd 187 286 = some (.iload 12, 2) := by decide +kernel
theorem c187_288 : mc_cd 187 288 = some (.iload 9, 2) := by decide +kernel
theorem c187_290 : mc_cd 187 290 = some (.iastore, 1) := by decide +kernel
theorem c187_291 : mc_cd 187 291 = some (.aload_n 0, 1) := by decide +kernel
theorem c187_292 : mc_cd 187 292 = some (.getfield 166, 3) := by decide +kernel
theorem c187_295 : mc_cd 187 295 = some (.getfield 264, 3) := by decide +kernel
theorem c187_298 : mc_cd 187 298 = some (.iload 12, 2) := by decide +kernel
theorem c187_300 : mc_cd 187 300 = some (.iload 10, 2) := by decide +kernel
theorem c187_302 : mc_cd 187 302 = some (.iastore, 1) := by decide +kernel
theorem c187_303 : mc_cd 187 303 = some (.aload_n 0, 1) := by decide +kernel
theorem c187_304 : mc_cd 187 304 = some (.getfield 166, 3) := by decide +kernel
theorem c187_307 : mc_cd 187 307 = some (.getfield 267, 3) := by decide +kernel
theorem c187_310 : mc_cd 187 310 = some (.iload 12, 2) := by decide +kernel
theorem c187_312 : mc_cd 187 312 = some (.iload 11, 2) := by decide +kernel
theorem c187_314 : mc_cd 187 314 = some (.bastore, 1) := by decide +kernel
theorem c187_315 : mc_cd 187 315 = some (.aload_n 0, 1) := by decide +kernel
theorem c187_316 : mc_cd 187 316 = some (.getfield 166, 3) := by decide +kernel
theorem c187_319 : mc_cd 187 319 = some (.dup, 1) := by decide +kernel
theorem c187_320 : mc_cd 187 320 = some (.getfield 188, 3) := by decide +kernel
theorem c187_323 : mc_cd 187 323 = some (.iconst 1, 1) := by decide +kernel
theorem c187_324 : mc_cd 187 324 = some (.iadd, 1) := by decide +kernel
theorem c187_325 : mc_cd 187 325 = some (.putfield 188, 3) := by decide +kernel
theorem c187_328 : mc_cd 187 328 = some (.return_, 1) := by decide +kernel
abbrev q_187 (r0 : Nat) (rp : Nat) (T : wq_T) (H : wq_H) : Option Value → wq_T → wq_H → Prop := fun r T' H' => T = T' ∧ WT T H' ∧ wfr [(54, 3), (42, 8), (42, 9), (42, 10), (42, 11), (42, 12), (42, 13), (42, 14), (42, 15), (56, 999), (57, 999), (60, 999), (63, 999), (58, 999), (59, 999), (55, 999), (61, 999), (62, 999)] T H H' ∧ none = r ∧ (wJ H' r0 = 1) ∧ (H r0 10 ≤ H' r0 10) ∧ (wOV H r0 ≤ wOV H' r0) ∧ (wOV H' r0 ≤ 1) ∧ (wPI H' rp = 1) ∧ (∀ a, a ≠ rp → T.2.2.2 a = some 54 → H' a 3 = H a 3)
set_option maxHeartbeats 4000000 in
theorem s_187 {kt : Nat → Option mc_E} {T : wq_T} {H : wq_H} {r0 : Nat} {rp : Nat} (hW : WT T H) (g0 : T.2.2.2 r0 = some 42) (qrp : H r0 4 = (rp : Int)) (grp : T.2.2.2 rp = some 54) (p0 : wJ H r0 = 1) (p1 : wPI H rp = 1) : wpc kt 5 187 [.ref r0] T H (q_187 r0 rp T H) := by
  refine wp_enter e187 (Nat.le_of_ble_eq_true rfl) rfl ?_
  have f0 : wfr [(54, 3), (42, 8), (42, 9), (42, 10), (42, 11), (42, 12), (42, 13), (42, 14), (42, 15), (56, 999), (57, 999), (60, 999), (63, 999), (58, 999), (59, 999), (55, 999), (61, 999), (62, 999)] T H H := wfr.rf
  show wp _ _ 187 0 [(0, .ref r0)] [] _ H _
  have hb0 := wOV_b (H := H) (m := r0)
  refine wp_of e187 c187_0 (rw_aload_n (pc' := 1) (v := .ref r0) rfl rfl rfl ?_)
  refine wp_of e187 c187_1 (rw_aload_n (pc' := 2) (v := .ref r0) rfl rfl rfl ?_)
  refine wp_of e187 c187_2 (xg_K (pc' := 5) lf_9_166 hW g0 sh_42 (by decide) (by decide) rfl qrp rfl ?_)
  refine wp_of e187 c187_5 (xg_I (pc' := 8) lf_9_188 hW grp sh_54 (by decide) (by decide) ty_54_3 rfl rfl (fun b87001 b87002 => ?_))
  refine wp_of e187 c187_8 (rw_bipush (pc' := 10) (z := 6) rfl (by decide) ?_)
  refine wp_of e187 c187_10 (xc_V (pc' := 13) (r := r0) (as := [vI (H rp 3), vI 6]) (st := []) (lm_9_228) rfl rfl (Nat.le_of_ble_eq_true rfl) hW g0 sh_42 (by decide) rfl (by decide) (s_188 hW g0 ⟨by omega, by omega⟩ ⟨by omega, by omega⟩ (by omega)) (fun R87003 T87004 H87005 p87006 => ?_))
  obtain ⟨e87007, w87009, f87010, e87008, p87011, p87012, p87013, p87014, p87015⟩ := p87006
  subst e87007
  subst e87008
  have f87016 := f0.tr f87010 rfl
  show wp _ _ 187 13 [(0, .ref r0)] [] _ H87005 _
  refine wp_of e187 c187_13 (rw_aload_n (pc' := 14) (v := .ref r0) rfl rfl rfl ?_)
  refine wp_of e187 c187_14 (xc_V (pc' := 17) (r := r0) (as := []) (st := []) (lm_9_162) rfl rfl (Nat.le_of_ble_eq_true rfl) w87009 g0 sh_42 (by decide) rfl (by decide) (s_189 w87009 g0) (fun R87017 T87018 H87019 p87020 => ?_))
  obtain ⟨e87021, e87023, z87024, e87022, b87025⟩ := p87020
  subst e87021
  subst e87022
  subst e87023
  show wp _ _ 187 17 [(0, .ref r0)] [vI z87024] _ H87005 _
  have jn87043 : ∀  (H87042 : wq_H), WT T H87042 → wfr [(42, 9), (42, 13), (42, 14)] T H87005 H87042 → (wJ H87042 r0 = 1) → (H r0 10 ≤ H87042 r0 10) → (wOV H r0 ≤ wOV H87042 r0) → (wOV H87042 r0 ≤ 1) → (wOV H87042 r0 = 1 ∨ H rp 3 ≠ 6) → wp kt 4 187 25 [(0, .ref r0)] [] T H87042 (q_187 r0 rp T H) := by
    intro H87042 w87044 f87045 x87046 x87047 x87048 x87049 x87050
    have f87051 := f87016.tr f87045 rfl
    have k87052 : H87042 r0 10 = H87005 r0 10 := (f87045 r0 10 _ g0 rfl)
    refine wp_of e187 c187_25 (rw_aload_n (pc' := 26) (v := .ref r0) rfl rfl rfl ?_)
    have k87053 : H87042 r0 4 = H r0 4 := ((f87045 r0 4 _ g0 rfl).trans (f87010 r0 4 _ g0 rfl))
    have q87054 : H87042 r0 4 = (rp : Int) := k87053.trans qrp
    refine wp_of e187 c187_26 (xg_K (pc' := 29) lf_9_166 w87044 g0 sh_42 (by decide) (by decide) rfl q87054 rfl ?_)
    refine wp_of e187 c187_29 (rw_aload_n (pc' := 30) (v := .ref r0) rfl rfl rfl ?_)
    refine wp_of e187 c187_30 (xg_L (pc' := 33) lf_9_94 w87044 g0 sh_42 (by decide) (by decide) ty_42_15 rfl rfl (fun b87055 b87056 => ?_))
    refine wp_of e187 c187_33 (xc_V (pc' := 36) (r := rp) (as := [vL (H87042 r0 15)]) (st := []) (lm_9_170) rfl rfl (Nat.le_of_ble_eq_true rfl) w87044 grp sh_54 (by decide) rfl (by decide) (s_190 w87044 grp ⟨by omega, by omega⟩) (fun R87057 T87058 H87059 p87060 => ?_))
    obtain ⟨e87061, e87063, z87064, e87062, b87065⟩ := p87060
    subst e87061
    subst e87062
    subst e87063
    show wp _ _ 187 36 [(0, .ref r0)] [vI z87064] _ H87042 _
    refine wp_of e187 c187_36 (rw_iconst (pc' := 37) rfl ?_)
    have jn87083 : ∀  (H87082 : wq_H), WT T H87082 → wfr [(42, 9), (42, 13), (42, 14)] T H87042 H87082 → (wJ H87082 r0 = 1) → (H r0 10 ≤ H87082 r0 10) → (wOV H r0 ≤ wOV H87082 r0) → (wOV H87082 r0 ≤ 1) → (wOV H87082 r0 = 1 ∨ H rp 3 ≠ 6) → wp kt 4 187 45 [(0, .ref r0)] [] T H87082 (q_187 r0 rp T H) := by
      intro H87082 w87084 f87085 x87086 x87087 x87088 x87089 x87090
      have f87091 := f87051.tr f87085 rfl
      have k87092 : H87082 r0 10 = H87042 r0 10 := (f87085 r0 10 _ g0 rfl)
      refine wp_of e187 c187_45 (rw_aload_n (pc' := 46) (v := .ref r0) rfl rfl rfl ?_)
      have k87093 : H87082 r0 15 = H87042 r0 15 := (f87085 r0 15 _ g0 rfl)
      refine wp_of e187 c187_46 (xg_L (pc' := 49) lf_9_94 w87084 g0 sh_42 (by decide) (by decide) ty_42_15 rfl rfl (fun b87094 b87095 => ?_))
      refine wp_of e187 c187_49 (rw_lstore_n (pc' := 50) (z := H87082 r0 15) (L' := [(1, vL (H87082 r0 15)), (0, .ref r0)]) rfl rfl rfl ?_)
      refine wp_of e187 c187_50 (rw_aload_n (pc' := 51) (v := .ref r0) rfl rfl rfl ?_)
      refine wp_of e187 c187_51 (xc_V (pc' := 54) (r := r0) (as := []) (st := []) (lm_9_118) rfl rfl (Nat.le_of_ble_eq_true rfl) w87084 g0 sh_42 (by decide) rfl (by decide) (s_172 w87084 g0 (by omega)) (fun R87096 T87097 H87098 p87099 => ?_))
      obtain ⟨e87100, w87102, f87103, e87101, p87104, p87105, p87106, p87107, p87108, p87109⟩ := p87099
      subst e87100
      subst e87101
      have f87110 := f87091.tr f87103 rfl
      show wp _ _ 187 54 [(1, vL (H87082 r0 15)), (0, .ref r0)] [] _ H87098 _
      refine wp_of e187 c187_54 (rw_aload_n (pc' := 55) (v := .ref r0) rfl rfl rfl ?_)
      refine wp_of e187 c187_55 (rw_ldcS (pc' := 57) (k := 86) rfl rfl rfl rfl ?_)
      refine wp_of e187 c187_57 (rw_iconst (pc' := 58) rfl ?_)
      refine wp_of e187 c187_58 (rw_bipush (pc' := 60) (z := 23) rfl (by decide) ?_)
      refine wp_of e187 c187_60 (xc_V (pc' := 63) (r := r0) (as := [.ref 86, vI 0, vI 23]) (st := []) (lm_9_216) rfl rfl (Nat.le_of_ble_eq_true rfl) w87102 g0 sh_42 (by decide) rfl (by decide) (s_182 w87102 g0 rfl ⟨by omega, by omega⟩ ⟨by omega, by omega⟩ (by omega)) (fun R87111 T87112 H87113 p87114 => ?_))
      obtain ⟨e87115, w87117, f87118, z87124, e87116, b87125, p87119, p87120, p87121, p87122, p87123⟩ := p87114
      subst e87115
      subst e87116
      have f87126 := f87110.tr f87118 rfl
      show wp _ _ 187 63 [(1, vL (H87082 r0 15)), (0, .ref r0)] [vI z87124] _ H87113 _
      refine wp_of e187 c187_63 (rw_istore_n (pc' := 64) (z := z87124) (L' := [(3, vI z87124), (1, vL (H87082 r0 15)), (0, .ref r0)]) rfl rfl rfl ?_)
      refine wp_of e187 c187_64 (rw_aload_n (pc' := 65) (v := .ref r0) rfl rfl rfl ?_)
      refine wp_of e187 c187_65 (rw_ldcS (pc' := 67) (k := 87) rfl rfl rfl rfl ?_)
      refine wp_of e187 c187_67 (rw_iload_n (pc' := 68) (z := z87124) rfl rfl ?_)
      refine wp_of e187 c187_68 (rw_bipush (pc' := 70) (z := 23) rfl (by decide) ?_)
      refine wp_of e187 c187_70 (rw_iload_n (pc' := 71) (z := z87124) rfl rfl ?_)
      refine wp_of e187 c187_71 (rw_bipush (pc' := 73) (z := 7) rfl (by decide) ?_)
      refine wp_of e187 c187_73 (rw_iadd (pc' := 74) rfl ?_)
      refine wp_of e187 c187_74 (xc_S (pc' := 77) (as := [vI 23, vI (z87124 + 7)]) (st := [vI z87124, .ref 87, .ref r0]) (lm_9_235) rfl rfl (Nat.le_of_ble_eq_true rfl) rfl (by decide) (s_191 w87117 ⟨by omega, by omega⟩ ⟨by omega, by omega⟩) (fun R87127 T87128 H87129 p87130 => ?_))
      obtain ⟨e87131, e87133, z87135, e87132, b87136, p87134⟩ := p87130
      subst e87131
      subst e87132
      subst e87133
      show wp _ _ 187 77 [(3, vI z87124), (1, vL (H87082 r0 15)), (0, .ref r0)] [vI z87135, vI z87124, .ref 87, .ref r0] _ H87113 _
      refine wp_of e187 c187_77 (xc_V (pc' := 80) (r := r0) (as := [.ref 87, vI z87124, vI z87135]) (st := []) (lm_9_216) rfl rfl (Nat.le_of_ble_eq_true rfl) w87117 g0 sh_42 (by decide) rfl (by decide) (s_182 w87117 g0 rfl ⟨by omega, by omega⟩ ⟨by omega, by omega⟩ (by omega)) (fun R87137 T87138 H87139 p87140 => ?_))
      obtain ⟨e87141, w87143, f87144, z87150, e87142, b87151, p87145, p87146, p87147, p87148, p87149⟩ := p87140
      subst e87141
      subst e87142
      have f87152 := f87126.tr f87144 rfl
      show wp _ _ 187 80 [(3, vI z87124), (1, vL (H87082 r0 15)), (0, .ref r0)] [vI z87150] _ H87139 _
      refine wp_of e187 c187_80 (rw_istore (pc' := 82) (z := z87150) (L' := [(4, vI z87150), (3, vI z87124), (1, vL (H87082 r0 15)), (0, .ref r0)]) rfl rfl rfl ?_)
      refine wp_of e187 c187_82 (rw_aload_n (pc' := 83) (v := .ref r0) rfl rfl rfl ?_)
      refine wp_of e187 c187_83 (rw_ldcS (pc' := 85) (k := 88) rfl rfl rfl rfl ?_)
      refine wp_of e187 c187_85 (rw_iconst (pc' := 86) rfl ?_)
      refine wp_of e187 c187_86 (rw_bipush (pc' := 88) (z := 12) rfl (by decide) ?_)
      refine wp_of e187 c187_88 (xc_V (pc' := 91) (r := r0) (as := [.ref 88, vI 0, vI 12]) (st := []) (lm_9_216) rfl rfl (Nat.le_of_ble_eq_true rfl) w87143 g0 sh_42 (by decide) rfl (by decide) (s_182 w87143 g0 rfl ⟨by omega, by omega⟩ ⟨by omega, by omega⟩ (by omega)) (fun R87153 T87154 H87155 p87156 => ?_))
      obtain ⟨e87157, w87159, f87160, z87166, e87158, b87167, p87161, p87162, p87163, p87164, p87165⟩ := p87156
      subst e87157
      subst e87158
      have f87168 := f87152.tr f87160 rfl
      show wp _ _ 187 91 [(4, vI z87150), (3, vI z87124), (1, vL (H87082 r0 15)), (0, .ref r0)] [vI z87166] _ H87155 _
      refine wp_of e187 c187_91 (rw_istore (pc' := 93) (z := z87166) (L' := [(5, vI z87166), (4, vI z87150), (3, vI z87124), (1, vL (H87082 r0 15)), (0, .ref r0)]) rfl rfl rfl ?_)
      refine wp_of e187 c187_93 (rw_aload_n (pc' := 94) (v := .ref r0) rfl rfl rfl ?_)
      refine wp_of e187 c187_94 (rw_ldcS (pc' := 96) (k := 87) rfl rfl rfl rfl ?_)
      refine wp_of e187 c187_96 (rw_iload (pc' := 98) (z := z87166) rfl rfl ?_)
      refine wp_of e187 c187_98 (rw_bipush (pc' := 100) (z := 12) rfl (by decide) ?_)
      refine wp_of e187 c187_100 (rw_iload (pc' := 102) (z := z87166) rfl rfl ?_)
      refine wp_of e187 c187_102 (rw_iconst (pc' := 103) rfl ?_)
      refine wp_of e187 c187_103 (rw_iadd (pc' := 104) rfl ?_)
      refine wp_of e187 c187_104 (xc_S (pc' := 107) (as := [vI 12, vI (z87166 + 4)]) (st := [vI z87166, .ref 87, .ref r0]) (lm_9_235) rfl rfl (Nat.le_of_ble_eq_true rfl) rfl (by decide) (s_191 w87159 ⟨by omega, by omega⟩ ⟨by omega, by omega⟩) (fun R87169 T87170 H87171 p87172 => ?_))
      obtain ⟨e87173, e87175, z87177, e87174, b87178, p87176⟩ := p87172
      subst e87173
      subst e87174
      subst e87175
      show wp _ _ 187 107 [(5, vI z87166), (4, vI z87150), (3, vI z87124), (1, vL (H87082 r0 15)), (0, .ref r0)] [vI z87177, vI z87166, .ref 87, .ref r0] _ H87155 _
      refine wp_of e187 c187_107 (xc_V (pc' := 110) (r := r0) (as := [.ref 87, vI z87166, vI z87177]) (st := []) (lm_9_216) rfl rfl (Nat.le_of_ble_eq_true rfl) w87159 g0 sh_42 (by decide) rfl (by decide) (s_182 w87159 g0 rfl ⟨by omega, by omega⟩ ⟨by omega, by omega⟩ (by omega)) (fun R87179 T87180 H87181 p87182 => ?_))
      obtain ⟨e87183, w87185, f87186, z87192, e87184, b87193, p87187, p87188, p87189, p87190, p87191⟩ := p87182
      subst e87183
      subst e87184
      have f87194 := f87168.tr f87186 rfl
      show wp _ _ 187 110 [(5, vI z87166), (4, vI z87150), (3, vI z87124), (1, vL (H87082 r0 15)), (0, .ref r0)] [vI z87192] _ H87181 _
      refine wp_of e187 c187_110 (rw_istore (pc' := 112) (z := z87192) (L' := [(6, vI z87192), (5, vI z87166), (4, vI z87150), (3, vI z87124), (1, vL (H87082 r0 15)), (0, .ref r0)]) rfl rfl rfl ?_)
      refine wp_of e187 c187_112 (rw_aload_n (pc' := 113) (v := .ref r0) rfl rfl rfl ?_)
      refine wp_of e187 c187_113 (rw_ldcS (pc' := 115) (k := 83) rfl rfl rfl rfl ?_)
      refine wp_of e187 c187_115 (xc_V (pc' := 118) (r := r0) (as := [.ref 83]) (st := []) (lm_9_240) rfl rfl (Nat.le_of_ble_eq_true rfl) w87185 g0 sh_42 (by decide) rfl (by decide) (s_192 w87185 g0 rfl (by omega)) (fun R87195 T87196 H87197 p87198 => ?_))
      obtain ⟨e87199, w87201, f87202, z87207, e87200, b87208, p87203, p87204, p87205, p87206⟩ := p87198
      subst e87199
      subst e87200
      have f87209 := f87194.tr f87202 rfl
      show wp _ _ 187 118 [(6, vI z87192), (5, vI z87166), (4, vI z87150), (3, vI z87124), (1, vL (H87082 r0 15)), (0, .ref r0)] [vI z87207] _ H87197 _
      have jn87229 : ∀ (v87227 : Int) (H87228 : wq_H), WT T H87228 → wfr [(42, 8), (42, 9), (42, 10), (42, 11), (42, 12), (42, 13), (42, 14), (42, 15)] T H87197 H87228 → ((-1) ≤ v87227 ∧ v87227 ≤ 23) → (wJ H87228 r0 = 1) → (H r0 10 ≤ H87228 r0 10) → (wOV H r0 ≤ wOV H87228 r0) → (wOV H87228 r0 ≤ 1) → (wOV H87228 r0 = 1 ∨ H rp 3 ≠ 6) → wp kt 4 187 132 [(0, .ref r0), (1, vL (H87082 r0 15)), (3, vI z87124), (4, vI z87150), (5, vI z87166), (6, vI z87192)] [vI v87227] T H87228 (q_187 r0 rp T H) := by
        intro v87227 H87228 w87230 f87231 b87232 x87233 x87234 x87235 x87236 x87237
        have f87238 := f87209.tr f87231 rfl
        refine wp_of e187 c187_132 (rw_istore (pc' := 134) (z := v87227) (L' := [(7, vI v87227), (0, .ref r0), (1, vL (H87082 r0 15)), (3, vI z87124), (4, vI z87150), (5, vI z87166), (6, vI z87192)]) rfl rfl rfl ?_)
        refine wp_of e187 c187_134 (rw_aload_n (pc' := 135) (v := .ref r0) rfl rfl rfl ?_)
        refine wp_of e187 c187_135 (rw_ldcS (pc' := 137) (k := 84) rfl rfl rfl rfl ?_)
        refine wp_of e187 c187_137 (xc_V (pc' := 140) (r := r0) (as := [.ref 84]) (st := []) (lm_9_240) rfl rfl (Nat.le_of_ble_eq_true rfl) w87230 g0 sh_42 (by decide) rfl (by decide) (s_192 w87230 g0 rfl (by omega)) (fun R87239 T87240 H87241 p87242 => ?_))
        obtain ⟨e87243, w87245, f87246, z87251, e87244, b87252, p87247, p87248, p87249, p87250⟩ := p87242
        subst e87243
        subst e87244
        have f87253 := f87238.tr f87246 rfl
        show wp _ _ 187 140 [(7, vI v87227), (0, .ref r0), (1, vL (H87082 r0 15)), (3, vI z87124), (4, vI z87150), (5, vI z87166), (6, vI z87192)] [vI z87251] _ H87241 _
        refine wp_of e187 c187_140 (rw_istore (pc' := 142) (z := z87251) (L' := [(8, vI z87251), (7, vI v87227), (0, .ref r0), (1, vL (H87082 r0 15)), (3, vI z87124), (4, vI z87150), (5, vI z87166), (6, vI z87192)]) rfl rfl rfl ?_)
        refine wp_of e187 c187_142 (rw_iload (pc' := 144) (z := z87251) rfl rfl ?_)
        have jn87273 : ∀ (v87271 : Int) (H87272 : wq_H), WT T H87272 → wfr [(42, 8), (42, 9), (42, 10), (42, 11), (42, 12), (42, 13), (42, 14), (42, 15)] T H87241 H87272 → (0 ≤ v87271 ∧ v87271 ≤ 23) → (wJ H87272 r0 = 1) → (H r0 10 ≤ H87272 r0 10) → (wOV H r0 ≤ wOV H87272 r0) → (wOV H87272 r0 ≤ 1) → (wOV H87272 r0 = 1 ∨ H rp 3 ≠ 6) → wp kt 4 187 158 [(0, .ref r0), (1, vL (H87082 r0 15)), (3, vI z87124), (4, vI z87150), (5, vI z87166), (6, vI z87192), (7, vI v87227), (8, vI z87251)] [vI v87271] T H87272 (q_187 r0 rp T H) := by
          intro v87271 H87272 w87274 f87275 b87276 x87277 x87278 x87279 x87280 x87281
          have f87282 := f87253.tr f87275 rfl
          refine wp_of e187 c187_158 (rw_istore (pc' := 160) (z := v87271) (L' := [(9, vI v87271), (0, .ref r0), (1, vL (H87082 r0 15)), (3, vI z87124), (4, vI z87150), (5, vI z87166), (6, vI z87192), (7, vI v87227), (8, vI z87251)]) rfl rfl rfl ?_)
          refine wp_of e187 c187_160 (rw_iload (pc' := 162) (z := z87251) rfl rfl ?_)
          have jn87302 : ∀ (v87300 : Int) (H87301 : wq_H), WT T H87301 → wfr [(42, 8), (42, 9), (42, 10), (42, 11), (42, 12), (42, 13), (42, 14), (42, 15)] T H87272 H87301 → (0 ≤ v87300 ∧ v87300 ≤ 24) → (wJ H87301 r0 = 1) → (H r0 10 ≤ H87301 r0 10) → (wOV H r0 ≤ wOV H87301 r0) → (wOV H87301 r0 ≤ 1) → (wOV H87301 r0 = 1 ∨ H rp 3 ≠ 6) → wp kt 4 187 181 [(0, .ref r0), (1, vL (H87082 r0 15)), (3, vI z87124), (4, vI z87150), (5, vI z87166), (6, vI z87192), (7, vI v87227), (9, vI v87271)] [vI v87300] T H87301 (q_187 r0 rp T H) := by
            intro v87300 H87301 w87303 f87304 b87305 x87306 x87307 x87308 x87309 x87310
            have f87311 := f87282.tr f87304 rfl
            refine wp_of e187 c187_181 (rw_istore (pc' := 183) (z := v87300) (L' := [(10, vI v87300), (0, .ref r0), (1, vL (H87082 r0 15)), (3, vI z87124), (4, vI z87150), (5, vI z87166), (6, vI z87192), (7, vI v87227), (9, vI v87271)]) rfl rfl rfl ?_)
            refine wp_of e187 c187_183 (rw_aload_n (pc' := 184) (v := .ref r0) rfl rfl rfl ?_)
            refine wp_of e187 c187_184 (rw_ldcS (pc' := 186) (k := 85) rfl rfl rfl rfl ?_)
            refine wp_of e187 c187_186 (xc_V (pc' := 189) (r := r0) (as := [.ref 85]) (st := []) (lm_9_240) rfl rfl (Nat.le_of_ble_eq_true rfl) w87303 g0 sh_42 (by decide) rfl (by decide) (s_192 w87303 g0 rfl (by omega)) (fun R87312 T87313 H87314 p87315 => ?_))
            obtain ⟨e87316, w87318, f87319, z87324, e87317, b87325, p87320, p87321, p87322, p87323⟩ := p87315
            subst e87316
            subst e87317
            have f87326 := f87311.tr f87319 rfl
            show wp _ _ 187 189 [(10, vI v87300), (0, .ref r0), (1, vL (H87082 r0 15)), (3, vI z87124), (4, vI z87150), (5, vI z87166), (6, vI z87192), (7, vI v87227), (9, vI v87271)] [vI z87324] _ H87314 _
            refine wp_of e187 c187_189 (rw_istore (pc' := 191) (z := z87324) (L' := [(11, vI z87324), (10, vI v87300), (0, .ref r0), (1, vL (H87082 r0 15)), (3, vI z87124), (4, vI z87150), (5, vI z87166), (6, vI z87192), (7, vI v87227), (9, vI v87271)]) rfl rfl rfl ?_)
            refine wp_of e187 c187_191 (rw_aload_n (pc' := 192) (v := .ref r0) rfl rfl rfl ?_)
            refine wp_of e187 c187_192 (xg_I (pc' := 195) lf_9_75 w87318 g0 sh_42 (by decide) (by decide) ty_42_9 rfl rfl (fun b87327 b87328 => ?_))
            have k87329 := wOV_e (H := H87314) (m := r0)
            refine wp_of e187 c187_195 (rw_iconst (pc' := 196) rfl ?_)
            refine wp_of e187 c187_196 (rw_icmp_ne (p1 := 200) (p2 := 199) (by decide) rfl ⟨by omega, by omega⟩ ⟨by omega, by omega⟩ (fun c87330 => ?_) (fun c87330 => ?_))
            · refine wp_of e187 c187_200 (rw_aload_n (pc' := 201) (v := .ref r0) rfl rfl rfl ?_)
              have k87331 : H87314 r0 4 = H87042 r0 4 := ((f87319 r0 4 _ g0 rfl).trans ((f87304 r0 4 _ g0 rfl).trans ((f87275 r0 4 _ g0 rfl).trans ((f87246 r0 4 _ g0 rfl).trans ((f87231 r0 4 _ g0 rfl).trans ((f87202 r0 4 _ g0 rfl).trans ((f87186 r0 4 _ g0 rfl).trans ((f87160 r0 4 _ g0 rfl).trans ((f87144 r0 4 _ g0 rfl).trans ((f87118 r0 4 _ g0 rfl).trans ((f87103 r0 4 _ g0 rfl).trans (f87085 r0 4 _ g0 rfl))))))))))))
              have q87332 : H87314 r0 4 = (rp : Int) := k87331.trans q87054
              refine wp_of e187 c187_201 (xg_K (pc' := 204) lf_9_166 w87318 g0 sh_42 (by decide) (by decide) rfl q87332 rfl ?_)
              have k87333 : H87314 rp 3 = H rp 3 := ((f87319 rp 3 _ grp rfl).trans ((f87304 rp 3 _ grp rfl).trans ((f87275 rp 3 _ grp rfl).trans ((f87246 rp 3 _ grp rfl).trans ((f87231 rp 3 _ grp rfl).trans ((f87202 rp 3 _ grp rfl).trans ((f87186 rp 3 _ grp rfl).trans ((f87160 rp 3 _ grp rfl).trans ((f87144 rp 3 _ grp rfl).trans ((f87118 rp 3 _ grp rfl).trans ((f87103 rp 3 _ grp rfl).trans ((f87085 rp 3 _ grp rfl).trans ((f87045 rp 3 _ grp rfl).trans (f87010 rp 3 _ grp rfl))))))))))))))
              refine wp_of e187 c187_204 (xg_I (pc' := 207) lf_9_188 w87318 grp sh_54 (by decide) (by decide) ty_54_3 rfl rfl (fun b87334 b87335 => ?_))
              refine wp_of e187 c187_207 (rw_istore (pc' := 209) (z := H87314 rp 3) (L' := [(12, vI (H87314 rp 3)), (11, vI z87324), (10, vI v87300), (0, .ref r0), (1, vL (H87082 r0 15)), (3, vI z87124), (4, vI z87150), (5, vI z87166), (6, vI z87192), (7, vI v87227), (9, vI v87271)]) rfl rfl rfl ?_)
              refine wp_of e187 c187_209 (rw_aload_n (pc' := 210) (v := .ref r0) rfl rfl rfl ?_)
              refine wp_of e187 c187_210 (xg_K (pc' := 213) lf_9_166 w87318 g0 sh_42 (by decide) (by decide) rfl q87332 rfl ?_)
              refine wp_of e187 c187_213 (xg_R (pc' := 216) lf_9_243 w87318 grp sh_54 (by decide) (by decide) ty_54_9 rfl rfl (fun r87336 q87337 g87338 => ?_))
              refine wp_of e187 c187_216 (rw_iload (pc' := 218) (z := H87314 rp 3) rfl rfl ?_)
              refine wp_of e187 c187_218 (rw_lload_n (pc' := 219) (z := H87082 r0 15) rfl rfl ?_)
              refine wp_of e187 c187_219 (xs_L (pc' := 220) w87318 g87338 (by decide) sh_55 (by decide) (ty_55 _) (by omega) (by omega) ⟨by omega, by omega⟩ (by omega) (by omega) rfl (fun H87339 e87340 w87341 => ?_))
              have f87342 := f87326.put' e87340 g87338 rfl
              refine wp_of e187 c187_220 (rw_aload_n (pc' := 221) (v := .ref r0) rfl rfl rfl ?_)
              have k87343 : H87339 r0 4 = H87314 r0 4 := (wq_u_t e87340 g87338 g0 rfl 4)
              have q87344 : H87339 r0 4 = (rp : Int) := k87343.trans q87332
              refine wp_of e187 c187_221 (xg_K (pc' := 224) lf_9_166 w87341 g0 sh_42 (by decide) (by decide) rfl q87344 rfl ?_)
              refine wp_of e187 c187_224 (xg_R (pc' := 227) lf_9_247 w87341 grp sh_54 (by decide) (by decide) ty_54_10 rfl rfl (fun r87345 q87346 g87347 => ?_))
              refine wp_of e187 c187_227 (rw_iload (pc' := 229) (z := H87314 rp 3) rfl rfl ?_)
              refine wp_of e187 c187_229 (rw_iload_n (pc' := 230) (z := z87124) rfl rfl ?_)
              refine wp_of e187 c187_230 (xs_I (pc' := 231) w87341 g87347 (by decide) sh_56 (by decide) (ty_56 _) (by omega) (by omega) ⟨by omega, by omega⟩ (by omega) (by omega) rfl (fun H87348 e87349 w87350 => ?_))
              have f87351 := f87342.put' e87349 g87347 rfl
              refine wp_of e187 c187_231 (rw_aload_n (pc' := 232) (v := .ref r0) rfl rfl rfl ?_)
              have k87352 : H87348 r0 4 = H87339 r0 4 := (wq_u_t e87349 g87347 g0 rfl 4)
              have q87353 : H87348 r0 4 = (rp : Int) := k87352.trans q87344
              refine wp_of e187 c187_232 (xg_K (pc' := 235) lf_9_166 w87350 g0 sh_42 (by decide) (by decide) rfl q87353 rfl ?_)
              refine wp_of e187 c187_235 (xg_R (pc' := 238) lf_9_250 w87350 grp sh_54 (by decide) (by decide) ty_54_11 rfl rfl (fun r87354 q87355 g87356 => ?_))
              refine wp_of e187 c187_238 (rw_iload (pc' := 240) (z := H87314 rp 3) rfl rfl ?_)
              refine wp_of e187 c187_240 (rw_iload (pc' := 242) (z := z87150) rfl rfl ?_)
              refine wp_of e187 c187_242 (xs_I (pc' := 243) w87350 g87356 (by decide) sh_57 (by decide) (ty_57 _) (by omega) (by omega) ⟨by omega, by omega⟩ (by omega) (by omega) rfl (fun H87357 e87358 w87359 => ?_))
              have f87360 := f87351.put' e87358 g87356 rfl
              refine wp_of e187 c187_243 (rw_aload_n (pc' := 244) (v := .ref r0) rfl rfl rfl ?_)
              have k87361 : H87357 r0 4 = H87348 r0 4 := (wq_u_t e87358 g87356 g0 rfl 4)
              have q87362 : H87357 r0 4 = (rp : Int) := k87361.trans q87353
              refine wp_of e187 c187_244 (xg_K (pc' := 247) lf_9_166 w87359 g0 sh_42 (by decide) (by decide) rfl q87362 rfl ?_)
              refine wp_of e187 c187_247 (xg_R (pc' := 250) lf_9_253 w87359 grp sh_54 (by decide) (by decide) ty_54_12 rfl rfl (fun r87363 q87364 g87365 => ?_))
              refine wp_of e187 c187_250 (rw_iload (pc' := 252) (z := H87314 rp 3) rfl rfl ?_)
              refine wp_of e187 c187_252 (rw_iload (pc' := 254) (z := z87166) rfl rfl ?_)
              refine wp_of e187 c187_254 (xs_I (pc' := 255) w87359 g87365 (by decide) sh_58 (by decide) (ty_58 _) (by omega) (by omega) ⟨by omega, by omega⟩ (by omega) (by omega) rfl (fun H87366 e87367 w87368 => ?_))
              have f87369 := f87360.put' e87367 g87365 rfl
              refine wp_of e187 c187_255 (rw_aload_n (pc' := 256) (v := .ref r0) rfl rfl rfl ?_)
              have k87370 : H87366 r0 4 = H87357 r0 4 := (wq_u_t e87367 g87365 g0 rfl 4)
              have q87371 : H87366 r0 4 = (rp : Int) := k87370.trans q87362
              refine wp_of e187 c187_256 (xg_K (pc' := 259) lf_9_166 w87368 g0 sh_42 (by decide) (by decide) rfl q87371 rfl ?_)
              refine wp_of e187 c187_259 (xg_R (pc' := 262) lf_9_256 w87368 grp sh_54 (by decide) (by decide) ty_54_13 rfl rfl (fun r87372 q87373 g87374 => ?_))
              refine wp_of e187 c187_262 (rw_iload (pc' := 264) (z := H87314 rp 3) rfl rfl ?_)
              refine wp_of e187 c187_264 (rw_iload (pc' := 266) (z := z87192) rfl rfl ?_)
              refine wp_of e187 c187_266 (xs_I (pc' := 267) w87368 g87374 (by decide) sh_59 (by decide) (ty_59 _) (by omega) (by omega) ⟨by omega, by omega⟩ (by omega) (by omega) rfl (fun H87375 e87376 w87377 => ?_))
              have f87378 := f87369.put' e87376 g87374 rfl
              refine wp_of e187 c187_267 (rw_aload_n (pc' := 268) (v := .ref r0) rfl rfl rfl ?_)
              have k87379 : H87375 r0 4 = H87366 r0 4 := (wq_u_t e87376 g87374 g0 rfl 4)
              have q87380 : H87375 r0 4 = (rp : Int) := k87379.trans q87371
              refine wp_of e187 c187_268 (xg_K (pc' := 271) lf_9_166 w87377 g0 sh_42 (by decide) (by decide) rfl q87380 rfl ?_)
              refine wp_of e187 c187_271 (xg_R (pc' := 274) lf_9_259 w87377 grp sh_54 (by decide) (by decide) ty_54_14 rfl rfl (fun r87381 q87382 g87383 => ?_))
              refine wp_of e187 c187_274 (rw_iload (pc' := 276) (z := H87314 rp 3) rfl rfl ?_)
              refine wp_of e187 c187_276 (rw_iload (pc' := 278) (z := v87227) rfl rfl ?_)
              refine wp_of e187 c187_278 (xs_I (pc' := 279) w87377 g87383 (by decide) sh_60 (by decide) (ty_60 _) (by omega) (by omega) ⟨by omega, by omega⟩ (by omega) (by omega) rfl (fun H87384 e87385 w87386 => ?_))
              have f87387 := f87378.put' e87385 g87383 rfl
              refine wp_of e187 c187_279 (rw_aload_n (pc' := 280) (v := .ref r0) rfl rfl rfl ?_)
              have k87388 : H87384 r0 4 = H87375 r0 4 := (wq_u_t e87385 g87383 g0 rfl 4)
              have q87389 : H87384 r0 4 = (rp : Int) := k87388.trans q87380
              refine wp_of e187 c187_280 (xg_K (pc' := 283) lf_9_166 w87386 g0 sh_42 (by decide) (by decide) rfl q87389 rfl ?_)
              refine wp_of e187 c187_283 (xg_R (pc' := 286) lf_9_261 w87386 grp sh_54 (by decide) (by decide) ty_54_15 rfl rfl (fun r87390 q87391 g87392 => ?_))
              refine wp_of e187 c187_286 (rw_iload (pc' := 288) (z := H87314 rp 3) rfl rfl ?_)
              refine wp_of e187 c187_288 (rw_iload (pc' := 290) (z := v87271) rfl rfl ?_)
              refine wp_of e187 c187_290 (xs_I (pc' := 291) w87386 g87392 (by decide) sh_61 (by decide) (ty_61 _) (by omega) (by omega) ⟨by omega, by omega⟩ (by omega) (by omega) rfl (fun H87393 e87394 w87395 => ?_))
              have f87396 := f87387.put' e87394 g87392 rfl
              refine wp_of e187 c187_291 (rw_aload_n (pc' := 292) (v := .ref r0) rfl rfl rfl ?_)
              have k87397 : H87393 r0 4 = H87384 r0 4 := (wq_u_t e87394 g87392 g0 rfl 4)
              have q87398 : H87393 r0 4 = (rp : Int) := k87397.trans q87389
              refine wp_of e187 c187_292 (xg_K (pc' := 295) lf_9_166 w87395 g0 sh_42 (by decide) (by decide) rfl q87398 rfl ?_)
              refine wp_of e187 c187_295 (xg_R (pc' := 298) lf_9_264 w87395 grp sh_54 (by decide) (by decide) ty_54_16 rfl rfl (fun r87399 q87400 g87401 => ?_))
              refine wp_of e187 c187_298 (rw_iload (pc' := 300) (z := H87314 rp 3) rfl rfl ?_)
              refine wp_of e187 c187_300 (rw_iload (pc' := 302) (z := v87300) rfl rfl ?_)
              refine wp_of e187 c187_302 (xs_I (pc' := 303) w87395 g87401 (by decide) sh_62 (by decide) (ty_62 _) (by omega) (by omega) ⟨by omega, by omega⟩ (by omega) (by omega) rfl (fun H87402 e87403 w87404 => ?_))
              have f87405 := f87396.put' e87403 g87401 rfl
              refine wp_of e187 c187_303 (rw_aload_n (pc' := 304) (v := .ref r0) rfl rfl rfl ?_)
              have k87406 : H87402 r0 4 = H87393 r0 4 := (wq_u_t e87403 g87401 g0 rfl 4)
              have q87407 : H87402 r0 4 = (rp : Int) := k87406.trans q87398
              refine wp_of e187 c187_304 (xg_K (pc' := 307) lf_9_166 w87404 g0 sh_42 (by decide) (by decide) rfl q87407 rfl ?_)
              refine wp_of e187 c187_307 (xg_R (pc' := 310) lf_9_267 w87404 grp sh_54 (by decide) (by decide) ty_54_17 rfl rfl (fun r87408 q87409 g87410 => ?_))
              refine wp_of e187 c187_310 (rw_iload (pc' := 312) (z := H87314 rp 3) rfl rfl ?_)
              refine wp_of e187 c187_312 (rw_iload (pc' := 314) (z := z87324) rfl rfl ?_)
              refine wp_of e187 c187_314 (xs_Z (pc' := 315) w87404 g87410 (by decide) sh_63 (by decide) (ty_63 _) (by omega) (by omega) ⟨by omega, by omega⟩ (by omega) (by omega) rfl (fun H87411 e87412 w87413 => ?_))
              have f87414 := f87405.put' e87412 g87410 rfl
              refine wp_of e187 c187_315 (rw_aload_n (pc' := 316) (v := .ref r0) rfl rfl rfl ?_)
              have k87415 : H87411 r0 4 = H87402 r0 4 := (wq_u_t e87412 g87410 g0 rfl 4)
              have q87416 : H87411 r0 4 = (rp : Int) := k87415.trans q87407
              refine wp_of e187 c187_316 (xg_K (pc' := 319) lf_9_166 w87413 g0 sh_42 (by decide) (by decide) rfl q87416 rfl ?_)
              refine wp_of e187 c187_319 (rw_dup (pc' := 320) rfl rfl ?_)
              have k87417 : H87411 rp 3 = H87314 rp 3 := ((wq_u_t e87412 g87410 grp rfl 3).trans ((wq_u_t e87403 g87401 grp rfl 3).trans ((wq_u_t e87394 g87392 grp rfl 3).trans ((wq_u_t e87385 g87383 grp rfl 3).trans ((wq_u_t e87376 g87374 grp rfl 3).trans ((wq_u_t e87367 g87365 grp rfl 3).trans ((wq_u_t e87358 g87356 grp rfl 3).trans ((wq_u_t e87349 g87347 grp rfl 3).trans (wq_u_t e87340 g87338 grp rfl 3)))))))))
              refine wp_of e187 c187_320 (xg_I (pc' := 323) lf_9_188 w87413 grp sh_54 (by decide) (by decide) ty_54_3 rfl rfl (fun b87418 b87419 => ?_))
              refine wp_of e187 c187_323 (rw_iconst (pc' := 324) rfl ?_)
              refine wp_of e187 c187_324 (rw_iadd (pc' := 325) rfl ?_)
              refine wp_of e187 c187_325 (xp_I (pc' := 328) lf_9_188 w87413 grp sh_54 (by decide) (by decide) ty_54_3 rfl rfl (by omega) (by omega) ⟨by omega, by omega⟩ rfl (fun H87420 e87421 w87422 => ?_))
              have f87423 := f87414.put' e87421 grp rfl
              have k87424 : H87420 rp 3 = (H87411 rp 3) + 1 := wq_u_s e87421
              have k87425 : H87420 r0 9 = H87314 r0 9 := ((wq_u_t e87421 grp g0 rfl 9).trans ((wq_u_t e87412 g87410 g0 rfl 9).trans ((wq_u_t e87403 g87401 g0 rfl 9).trans ((wq_u_t e87394 g87392 g0 rfl 9).trans ((wq_u_t e87385 g87383 g0 rfl 9).trans ((wq_u_t e87376 g87374 g0 rfl 9).trans ((wq_u_t e87367 g87365 g0 rfl 9).trans ((wq_u_t e87358 g87356 g0 rfl 9).trans ((wq_u_t e87349 g87347 g0 rfl 9).trans (wq_u_t e87340 g87338 g0 rfl 9))))))))))
              have k87426 : H87420 r0 10 = H87314 r0 10 := ((wq_u_t e87421 grp g0 rfl 10).trans ((wq_u_t e87412 g87410 g0 rfl 10).trans ((wq_u_t e87403 g87401 g0 rfl 10).trans ((wq_u_t e87394 g87392 g0 rfl 10).trans ((wq_u_t e87385 g87383 g0 rfl 10).trans ((wq_u_t e87376 g87374 g0 rfl 10).trans ((wq_u_t e87367 g87365 g0 rfl 10).trans ((wq_u_t e87358 g87356 g0 rfl 10).trans ((wq_u_t e87349 g87347 g0 rfl 10).trans (wq_u_t e87340 g87338 g0 rfl 10))))))))))
              have k87427 : wOV H87420 r0 = wOV H87314 r0 := ((wOV_fr w87413 g0 ((wfr.rf (l := [(54, 3)])).put' e87421 grp rfl) rfl).trans ((wOV_fr w87404 g0 ((wfr.rf (l := [(63, 999)])).put' e87412 g87410 rfl) rfl).trans ((wOV_fr w87395 g0 ((wfr.rf (l := [(62, 999)])).put' e87403 g87401 rfl) rfl).trans ((wOV_fr w87386 g0 ((wfr.rf (l := [(61, 999)])).put' e87394 g87392 rfl) rfl).trans ((wOV_fr w87377 g0 ((wfr.rf (l := [(60, 999)])).put' e87385 g87383 rfl) rfl).trans ((wOV_fr w87368 g0 ((wfr.rf (l := [(59, 999)])).put' e87376 g87374 rfl) rfl).trans ((wOV_fr w87359 g0 ((wfr.rf (l := [(58, 999)])).put' e87367 g87365 rfl) rfl).trans ((wOV_fr w87350 g0 ((wfr.rf (l := [(57, 999)])).put' e87358 g87356 rfl) rfl).trans ((wOV_fr w87341 g0 ((wfr.rf (l := [(56, 999)])).put' e87349 g87347 rfl) rfl).trans (wOV_fr w87318 g0 ((wfr.rf (l := [(55, 999)])).put' e87340 g87338 rfl) rfl))))))))))
              have k87428 : wJ H87420 r0 = wJ H87314 r0 := ((wJ_fr w87413 g0 ((wfr.rf (l := [(54, 3)])).put' e87421 grp rfl) rfl).trans ((wJ_fr w87404 g0 ((wfr.rf (l := [(63, 999)])).put' e87412 g87410 rfl) rfl).trans ((wJ_fr w87395 g0 ((wfr.rf (l := [(62, 999)])).put' e87403 g87401 rfl) rfl).trans ((wJ_fr w87386 g0 ((wfr.rf (l := [(61, 999)])).put' e87394 g87392 rfl) rfl).trans ((wJ_fr w87377 g0 ((wfr.rf (l := [(60, 999)])).put' e87385 g87383 rfl) rfl).trans ((wJ_fr w87368 g0 ((wfr.rf (l := [(59, 999)])).put' e87376 g87374 rfl) rfl).trans ((wJ_fr w87359 g0 ((wfr.rf (l := [(58, 999)])).put' e87367 g87365 rfl) rfl).trans ((wJ_fr w87350 g0 ((wfr.rf (l := [(57, 999)])).put' e87358 g87356 rfl) rfl).trans ((wJ_fr w87341 g0 ((wfr.rf (l := [(56, 999)])).put' e87349 g87347 rfl) rfl).trans (wJ_fr w87318 g0 ((wfr.rf (l := [(55, 999)])).put' e87340 g87338 rfl) rfl))))))))))
              have k87430 : H87420 rp 10 = H87339 rp 10 := ((wq_u_j e87421 rfl).trans ((wq_u_t e87412 g87410 grp rfl 10).trans ((wq_u_t e87403 g87401 grp rfl 10).trans ((wq_u_t e87394 g87392 grp rfl 10).trans ((wq_u_t e87385 g87383 grp rfl 10).trans ((wq_u_t e87376 g87374 grp rfl 10).trans ((wq_u_t e87367 g87365 grp rfl 10).trans ((wq_u_t e87358 g87356 grp rfl 10).trans (wq_u_t e87349 g87347 grp rfl 10)))))))))
              have q87431 : H87420 rp 10 = (r87345 : Int) := k87430.trans q87346
              have k87432 : H87420 rp 11 = H87348 rp 11 := ((wq_u_j e87421 rfl).trans ((wq_u_t e87412 g87410 grp rfl 11).trans ((wq_u_t e87403 g87401 grp rfl 11).trans ((wq_u_t e87394 g87392 grp rfl 11).trans ((wq_u_t e87385 g87383 grp rfl 11).trans ((wq_u_t e87376 g87374 grp rfl 11).trans ((wq_u_t e87367 g87365 grp rfl 11).trans (wq_u_t e87358 g87356 grp rfl 11))))))))
              have q87433 : H87420 rp 11 = (r87354 : Int) := k87432.trans q87355
              have k87434 : H87420 rp 12 = H87357 rp 12 := ((wq_u_j e87421 rfl).trans ((wq_u_t e87412 g87410 grp rfl 12).trans ((wq_u_t e87403 g87401 grp rfl 12).trans ((wq_u_t e87394 g87392 grp rfl 12).trans ((wq_u_t e87385 g87383 grp rfl 12).trans ((wq_u_t e87376 g87374 grp rfl 12).trans (wq_u_t e87367 g87365 grp rfl 12)))))))
              have q87435 : H87420 rp 12 = (r87363 : Int) := k87434.trans q87364
              have k87436 : H87420 rp 13 = H87366 rp 13 := ((wq_u_j e87421 rfl).trans ((wq_u_t e87412 g87410 grp rfl 13).trans ((wq_u_t e87403 g87401 grp rfl 13).trans ((wq_u_t e87394 g87392 grp rfl 13).trans ((wq_u_t e87385 g87383 grp rfl 13).trans (wq_u_t e87376 g87374 grp rfl 13))))))
              have q87437 : H87420 rp 13 = (r87372 : Int) := k87436.trans q87373
              have k87429 : wPI H87420 rp = 1 := wPI_set ((((wPI_fr w87318 grp ((wfr.rf (l := [(55, 999)])).put' e87340 g87338 rfl) rfl).trans ((wPI_fr w87303 grp f87319 rfl).trans ((wPI_fr w87274 grp f87304 rfl).trans ((wPI_fr w87245 grp f87275 rfl).trans ((wPI_fr w87230 grp f87246 rfl).trans ((wPI_fr w87201 grp f87231 rfl).trans ((wPI_fr w87185 grp f87202 rfl).trans ((wPI_fr w87159 grp f87186 rfl).trans ((wPI_fr w87143 grp f87160 rfl).trans ((wPI_fr w87117 grp f87144 rfl).trans ((wPI_fr w87102 grp f87118 rfl).trans ((wPI_fr w87084 grp f87103 rfl).trans ((wPI_fr w87044 grp f87085 rfl).trans ((wPI_fr w87009 grp f87045 rfl).trans (wPI_fr hW grp f87010 rfl)))))))))))))))).trans (by omega)) ((((wq_u_j e87421 rfl).trans ((wq_u_t e87412 g87410 grp rfl 10).trans ((wq_u_t e87403 g87401 grp rfl 10).trans ((wq_u_t e87394 g87392 grp rfl 10).trans ((wq_u_t e87385 g87383 grp rfl 10).trans ((wq_u_t e87376 g87374 grp rfl 10).trans ((wq_u_t e87367 g87365 grp rfl 10).trans ((wq_u_t e87358 g87356 grp rfl 10).trans (wq_u_t e87349 g87347 grp rfl 10)))))))))).symm.trans q87431) ((((wq_u_j e87421 rfl).trans ((wq_u_t e87412 g87410 grp rfl 11).trans ((wq_u_t e87403 g87401 grp rfl 11).trans ((wq_u_t e87394 g87392 grp rfl 11).trans ((wq_u_t e87385 g87383 grp rfl 11).trans ((wq_u_t e87376 g87374 grp rfl 11).trans ((wq_u_t e87367 g87365 grp rfl 11).trans ((wq_u_t e87358 g87356 grp rfl 11).trans (wq_u_t e87349 g87347 grp rfl 11)))))))))).symm.trans q87433) ((((wq_u_j e87421 rfl).trans ((wq_u_t e87412 g87410 grp rfl 12).trans ((wq_u_t e87403 g87401 grp rfl 12).trans ((wq_u_t e87394 g87392 grp rfl 12).trans ((wq_u_t e87385 g87383 grp rfl 12).trans ((wq_u_t e87376 g87374 grp rfl 12).trans ((wq_u_t e87367 g87365 grp rfl 12).trans ((wq_u_t e87358 g87356 grp rfl 12).trans (wq_u_t e87349 g87347 grp rfl 12)))))))))).symm.trans q87435) ((((wq_u_j e87421 rfl).trans ((wq_u_t e87412 g87410 grp rfl 13).trans ((wq_u_t e87403 g87401 grp rfl 13).trans ((wq_u_t e87394 g87392 grp rfl 13).trans ((wq_u_t e87385 g87383 grp rfl 13).trans ((wq_u_t e87376 g87374 grp rfl 13).trans ((wq_u_t e87367 g87365 grp rfl 13).trans ((wq_u_t e87358 g87356 grp rfl 13).trans (wq_u_t e87349 g87347 grp rfl 13)))))))))).symm.trans q87437) q87431 q87433 q87435 q87437 (fun j hj => (((wq_u_t e87421 grp g87347 rfl (j)).trans ((wq_u_t e87412 g87410 g87347 rfl (j)).trans ((wq_u_t e87403 g87401 g87347 rfl (j)).trans ((wq_u_t e87394 g87392 g87347 rfl (j)).trans ((wq_u_t e87385 g87383 g87347 rfl (j)).trans ((wq_u_t e87376 g87374 g87347 rfl (j)).trans ((wq_u_t e87367 g87365 g87347 rfl (j)).trans (wq_u_t e87358 g87356 g87347 rfl (j)))))))))).trans ((wq_u_i e87349 hj).trans (rfl))) ((((wq_u_t e87421 grp g87347 rfl ((H87314 rp 3).toNat)).trans ((wq_u_t e87412 g87410 g87347 rfl ((H87314 rp 3).toNat)).trans ((wq_u_t e87403 g87401 g87347 rfl ((H87314 rp 3).toNat)).trans ((wq_u_t e87394 g87392 g87347 rfl ((H87314 rp 3).toNat)).trans ((wq_u_t e87385 g87383 g87347 rfl ((H87314 rp 3).toNat)).trans ((wq_u_t e87376 g87374 g87347 rfl ((H87314 rp 3).toNat)).trans ((wq_u_t e87367 g87365 g87347 rfl ((H87314 rp 3).toNat)).trans (wq_u_t e87358 g87356 g87347 rfl ((H87314 rp 3).toNat)))))))))).trans (wq_u_s e87349)) (fun j hj => (((wq_u_t e87421 grp g87356 rfl (j)).trans ((wq_u_t e87412 g87410 g87356 rfl (j)).trans ((wq_u_t e87403 g87401 g87356 rfl (j)).trans ((wq_u_t e87394 g87392 g87356 rfl (j)).trans ((wq_u_t e87385 g87383 g87356 rfl (j)).trans ((wq_u_t e87376 g87374 g87356 rfl (j)).trans (wq_u_t e87367 g87365 g87356 rfl (j))))))))).trans ((wq_u_i e87358 hj).trans ((wq_u_t e87349 g87347 g87356 rfl (j))))) ((((wq_u_t e87421 grp g87356 rfl ((H87314 rp 3).toNat)).trans ((wq_u_t e87412 g87410 g87356 rfl ((H87314 rp 3).toNat)).trans ((wq_u_t e87403 g87401 g87356 rfl ((H87314 rp 3).toNat)).trans ((wq_u_t e87394 g87392 g87356 rfl ((H87314 rp 3).toNat)).trans ((wq_u_t e87385 g87383 g87356 rfl ((H87314 rp 3).toNat)).trans ((wq_u_t e87376 g87374 g87356 rfl ((H87314 rp 3).toNat)).trans (wq_u_t e87367 g87365 g87356 rfl ((H87314 rp 3).toNat))))))))).trans (wq_u_s e87358)) (fun j hj => (((wq_u_t e87421 grp g87365 rfl (j)).trans ((wq_u_t e87412 g87410 g87365 rfl (j)).trans ((wq_u_t e87403 g87401 g87365 rfl (j)).trans ((wq_u_t e87394 g87392 g87365 rfl (j)).trans ((wq_u_t e87385 g87383 g87365 rfl (j)).trans (wq_u_t e87376 g87374 g87365 rfl (j)))))))).trans ((wq_u_i e87367 hj).trans (((wq_u_t e87358 g87356 g87365 rfl (j)).trans (wq_u_t e87349 g87347 g87365 rfl (j)))))) ((((wq_u_t e87421 grp g87365 rfl ((H87314 rp 3).toNat)).trans ((wq_u_t e87412 g87410 g87365 rfl ((H87314 rp 3).toNat)).trans ((wq_u_t e87403 g87401 g87365 rfl ((H87314 rp 3).toNat)).trans ((wq_u_t e87394 g87392 g87365 rfl ((H87314 rp 3).toNat)).trans ((wq_u_t e87385 g87383 g87365 rfl ((H87314 rp 3).toNat)).trans (wq_u_t e87376 g87374 g87365 rfl ((H87314 rp 3).toNat)))))))).trans (wq_u_s e87367)) (fun j hj => (((wq_u_t e87421 grp g87374 rfl (j)).trans ((wq_u_t e87412 g87410 g87374 rfl (j)).trans ((wq_u_t e87403 g87401 g87374 rfl (j)).trans ((wq_u_t e87394 g87392 g87374 rfl (j)).trans (wq_u_t e87385 g87383 g87374 rfl (j))))))).trans ((wq_u_i e87376 hj).trans (((wq_u_t e87367 g87365 g87374 rfl (j)).trans ((wq_u_t e87358 g87356 g87374 rfl (j)).trans (wq_u_t e87349 g87347 g87374 rfl (j))))))) ((((wq_u_t e87421 grp g87374 rfl ((H87314 rp 3).toNat)).trans ((wq_u_t e87412 g87410 g87374 rfl ((H87314 rp 3).toNat)).trans ((wq_u_t e87403 g87401 g87374 rfl ((H87314 rp 3).toNat)).trans ((wq_u_t e87394 g87392 g87374 rfl ((H87314 rp 3).toNat)).trans (wq_u_t e87385 g87383 g87374 rfl ((H87314 rp 3).toNat))))))).trans (wq_u_s e87376)) (by omega) (by omega)
              exact wp_return e187 c187_328 rfl ⟨rfl, w87422, f87423, rfl, by omega, by omega, by omega, by omega, by omega, fun a ha ga => ((wq_u_a e87421 ha 3).trans ((wq_u_t e87412 g87410 ga rfl 3).trans ((wq_u_t e87403 g87401 ga rfl 3).trans ((wq_u_t e87394 g87392 ga rfl 3).trans ((wq_u_t e87385 g87383 ga rfl 3).trans ((wq_u_t e87376 g87374 ga rfl 3).trans ((wq_u_t e87367 g87365 ga rfl 3).trans ((wq_u_t e87358 g87356 ga rfl 3).trans ((wq_u_t e87349 g87347 ga rfl 3).trans ((wq_u_t e87340 g87338 ga rfl 3).trans ((f87319 a 3 _ ga rfl).trans ((f87304 a 3 _ ga rfl).trans ((f87275 a 3 _ ga rfl).trans ((f87246 a 3 _ ga rfl).trans ((f87231 a 3 _ ga rfl).trans ((f87202 a 3 _ ga rfl).trans ((f87186 a 3 _ ga rfl).trans ((f87160 a 3 _ ga rfl).trans ((f87144 a 3 _ ga rfl).trans ((f87118 a 3 _ ga rfl).trans ((f87103 a 3 _ ga rfl).trans ((f87085 a 3 _ ga rfl).trans ((f87045 a 3 _ ga rfl).trans (f87010 a 3 _ ga rfl))))))))))))))))))))))))⟩
            · have k87438 : wPI H87314 rp = wPI H rp := ((wPI_fr w87303 grp f87319 rfl).trans ((wPI_fr w87274 grp f87304 rfl).trans ((wPI_fr w87245 grp f87275 rfl).trans ((wPI_fr w87230 grp f87246 rfl).trans ((wPI_fr w87201 grp f87231 rfl).trans ((wPI_fr w87185 grp f87202 rfl).trans ((wPI_fr w87159 grp f87186 rfl).trans ((wPI_fr w87143 grp f87160 rfl).trans ((wPI_fr w87117 grp f87144 rfl).trans ((wPI_fr w87102 grp f87118 rfl).trans ((wPI_fr w87084 grp f87103 rfl).trans ((wPI_fr w87044 grp f87085 rfl).trans ((wPI_fr w87009 grp f87045 rfl).trans (wPI_fr hW grp f87010 rfl))))))))))))))
              exact wp_return e187 c187_199 rfl ⟨rfl, w87318, f87326, rfl, by omega, by omega, by omega, by omega, by omega, fun a ha ga => ((f87319 a 3 _ ga rfl).trans ((f87304 a 3 _ ga rfl).trans ((f87275 a 3 _ ga rfl).trans ((f87246 a 3 _ ga rfl).trans ((f87231 a 3 _ ga rfl).trans ((f87202 a 3 _ ga rfl).trans ((f87186 a 3 _ ga rfl).trans ((f87160 a 3 _ ga rfl).trans ((f87144 a 3 _ ga rfl).trans ((f87118 a 3 _ ga rfl).trans ((f87103 a 3 _ ga rfl).trans ((f87085 a 3 _ ga rfl).trans ((f87045 a 3 _ ga rfl).trans (f87010 a 3 _ ga rfl))))))))))))))⟩
          have f87439 : wfr [(42, 8), (42, 9), (42, 10), (42, 11), (42, 12), (42, 13), (42, 14), (42, 15)] T H87272 H87272 := wfr.rf
          refine wp_of e187 c187_162 (rw_if_eq (p1 := 180) (p2 := 165) (by decide) rfl ⟨by omega, by omega⟩ (fun c87440 => ?_) (fun c87440 => ?_))
          · refine wp_of e187 c187_180 (rw_iconst (pc' := 181) rfl ?_)
            exact wp_lc (ks := [9, 0, 1, 3, 4, 5, 6, 7, 8]) (wl_c rfl (wl_c rfl (wl_c rfl (wl_c rfl (wl_c rfl (wl_c rfl (wl_c rfl (wl_c rfl wl_n)))))))) rfl (by decide) (jn87302 0 H87272 w87274 f87439 ⟨by omega, by omega⟩ (by omega) (by omega) (by omega) (by omega) (by omega))
          · refine wp_of e187 c187_165 (rw_aload_n (pc' := 166) (v := .ref r0) rfl rfl rfl ?_)
            refine wp_of e187 c187_166 (rw_ldcS (pc' := 168) (k := 87) rfl rfl rfl rfl ?_)
            refine wp_of e187 c187_168 (rw_iload (pc' := 170) (z := v87271) rfl rfl ?_)
            refine wp_of e187 c187_170 (rw_iconst (pc' := 171) rfl ?_)
            refine wp_of e187 c187_171 (rw_iadd (pc' := 172) rfl ?_)
            refine wp_of e187 c187_172 (rw_bipush (pc' := 174) (z := 24) rfl (by decide) ?_)
            refine wp_of e187 c187_174 (xc_V (pc' := 177) (r := r0) (as := [.ref 87, vI (v87271 + 1), vI 24]) (st := []) (lm_9_216) rfl rfl (Nat.le_of_ble_eq_true rfl) w87274 g0 sh_42 (by decide) rfl (by decide) (s_182 w87274 g0 rfl ⟨by omega, by omega⟩ ⟨by omega, by omega⟩ (by omega)) (fun R87441 T87442 H87443 p87444 => ?_))
            obtain ⟨e87445, w87447, f87448, z87454, e87446, b87455, p87449, p87450, p87451, p87452, p87453⟩ := p87444
            subst e87445
            subst e87446
            have f87456 := f87282.tr f87448 rfl
            have f87457 := f87439.tr f87448 rfl
            show wp _ _ 187 177 [(9, vI v87271), (0, .ref r0), (1, vL (H87082 r0 15)), (3, vI z87124), (4, vI z87150), (5, vI z87166), (6, vI z87192), (7, vI v87227), (8, vI z87251)] [vI z87454] _ H87443 _
            refine wp_of e187 c187_177 (rw_goto (p1 := 181) (by decide) ?_)
            exact wp_lc (ks := [9, 0, 1, 3, 4, 5, 6, 7, 8]) (wl_c rfl (wl_c rfl (wl_c rfl (wl_c rfl (wl_c rfl (wl_c rfl (wl_c rfl (wl_c rfl wl_n)))))))) rfl (by decide) (jn87302 z87454 H87443 w87447 f87457 ⟨by omega, by omega⟩ (by omega) (by omega) (by omega) (by omega) (by omega))
        have f87458 : wfr [(42, 8), (42, 9), (42, 10), (42, 11), (42, 12), (42, 13), (42, 14), (42, 15)] T H87241 H87241 := wfr.rf
        refine wp_of e187 c187_144 (rw_if_eq (p1 := 157) (p2 := 147) (by decide) rfl ⟨by omega, by omega⟩ (fun c87459 => ?_) (fun c87459 => ?_))
        · refine wp_of e187 c187_157 (rw_iconst (pc' := 158) rfl ?_)
          exact wp_lc (ks := [8, 7, 0, 1, 3, 4, 5, 6]) (wl_c rfl (wl_c rfl (wl_c rfl (wl_c rfl (wl_c rfl (wl_c rfl (wl_c rfl (wl_c rfl wl_n)))))))) rfl (by decide) (jn87273 0 H87241 w87245 f87458 ⟨by omega, by omega⟩ (by omega) (by omega) (by omega) (by omega) (by omega))
        · refine wp_of e187 c187_147 (rw_aload_n (pc' := 148) (v := .ref r0) rfl rfl rfl ?_)
          refine wp_of e187 c187_148 (rw_iconst (pc' := 149) rfl ?_)
          refine wp_of e187 c187_149 (rw_bipush (pc' := 151) (z := 23) rfl (by decide) ?_)
          refine wp_of e187 c187_151 (xc_V (pc' := 154) (r := r0) (as := [vI 0, vI 23]) (st := []) (lm_9_137) rfl rfl (Nat.le_of_ble_eq_true rfl) w87245 g0 sh_42 (by decide) rfl (by decide) (s_184 w87245 g0 ⟨by omega, by omega⟩ ⟨by omega, by omega⟩ (by omega)) (fun R87460 T87461 H87462 p87463 => ?_))
          obtain ⟨e87464, w87466, f87467, z87473, e87465, b87474, p87468, p87469, p87470, p87471, p87472⟩ := p87463
          subst e87464
          subst e87465
          have f87475 := f87253.tr f87467 rfl
          have f87476 := f87458.tr f87467 rfl
          show wp _ _ 187 154 [(8, vI z87251), (7, vI v87227), (0, .ref r0), (1, vL (H87082 r0 15)), (3, vI z87124), (4, vI z87150), (5, vI z87166), (6, vI z87192)] [vI z87473] _ H87462 _
          refine wp_of e187 c187_154 (rw_goto (p1 := 158) (by decide) ?_)
          exact wp_lc (ks := [8, 7, 0, 1, 3, 4, 5, 6]) (wl_c rfl (wl_c rfl (wl_c rfl (wl_c rfl (wl_c rfl (wl_c rfl (wl_c rfl (wl_c rfl wl_n)))))))) rfl (by decide) (jn87273 z87473 H87462 w87466 f87476 ⟨by omega, by omega⟩ (by omega) (by omega) (by omega) (by omega) (by omega))
      have f87477 : wfr [(42, 8), (42, 9), (42, 10), (42, 11), (42, 12), (42, 13), (42, 14), (42, 15)] T H87197 H87197 := wfr.rf
      refine wp_of e187 c187_118 (rw_if_eq (p1 := 131) (p2 := 121) (by decide) rfl ⟨by omega, by omega⟩ (fun c87478 => ?_) (fun c87478 => ?_))
      · refine wp_of e187 c187_131 (rw_iconst (pc' := 132) rfl ?_)
        exact wp_lc (ks := [6, 5, 4, 3, 1, 0]) (wl_c rfl (wl_c rfl (wl_c rfl (wl_c rfl (wl_c rfl (wl_c rfl wl_n)))))) rfl (by decide) (jn87229 (-1) H87197 w87201 f87477 ⟨by omega, by omega⟩ (by omega) (by omega) (by omega) (by omega) (by omega))
      · refine wp_of e187 c187_121 (rw_aload_n (pc' := 122) (v := .ref r0) rfl rfl rfl ?_)
        refine wp_of e187 c187_122 (rw_iconst (pc' := 123) rfl ?_)
        refine wp_of e187 c187_123 (rw_bipush (pc' := 125) (z := 23) rfl (by decide) ?_)
        refine wp_of e187 c187_125 (xc_V (pc' := 128) (r := r0) (as := [vI 0, vI 23]) (st := []) (lm_9_137) rfl rfl (Nat.le_of_ble_eq_true rfl) w87201 g0 sh_42 (by decide) rfl (by decide) (s_184 w87201 g0 ⟨by omega, by omega⟩ ⟨by omega, by omega⟩ (by omega)) (fun R87479 T87480 H87481 p87482 => ?_))
        obtain ⟨e87483, w87485, f87486, z87492, e87484, b87493, p87487, p87488, p87489, p87490, p87491⟩ := p87482
        subst e87483
        subst e87484
        have f87494 := f87209.tr f87486 rfl
        have f87495 := f87477.tr f87486 rfl
        show wp _ _ 187 128 [(6, vI z87192), (5, vI z87166), (4, vI z87150), (3, vI z87124), (1, vL (H87082 r0 15)), (0, .ref r0)] [vI z87492] _ H87481 _
        refine wp_of e187 c187_128 (rw_goto (p1 := 132) (by decide) ?_)
        exact wp_lc (ks := [6, 5, 4, 3, 1, 0]) (wl_c rfl (wl_c rfl (wl_c rfl (wl_c rfl (wl_c rfl (wl_c rfl wl_n)))))) rfl (by decide) (jn87229 z87492 H87481 w87485 f87495 ⟨by omega, by omega⟩ (by omega) (by omega) (by omega) (by omega) (by omega))
    have f87496 : wfr [(42, 9), (42, 13), (42, 14)] T H87042 H87042 := wfr.rf
    refine wp_of e187 c187_37 (rw_icmp_eq (p1 := 45) (p2 := 40) (by decide) rfl ⟨by omega, by omega⟩ ⟨by omega, by omega⟩ (fun c87497 => ?_) (fun c87497 => ?_))
    · exact wp_lc (ks := [0]) (wl_c rfl wl_n) rfl (by decide) (jn87083 H87042 w87044 f87496 (by omega) (by omega) (by omega) (by omega) (by omega))
    · refine wp_of e187 c187_40 (rw_aload_n (pc' := 41) (v := .ref r0) rfl rfl rfl ?_)
      refine wp_of e187 c187_41 (rw_iconst (pc' := 42) rfl ?_)
      refine wp_of e187 c187_42 (xc_V (pc' := 45) (r := r0) (as := [vI 3]) (st := []) (lm_9_121) rfl rfl (Nat.le_of_ble_eq_true rfl) w87044 g0 sh_42 (by decide) rfl (by decide) (s_181 w87044 g0 ⟨by omega, by omega⟩ (by omega)) (fun R87498 T87499 H87500 p87501 => ?_))
      obtain ⟨e87502, w87504, f87505, e87503, p87506, p87507, p87508, p87509, p87510, p87511⟩ := p87501
      subst e87502
      subst e87503
      have f87512 := f87051.tr f87505 rfl
      have f87513 := f87496.tr f87505 rfl
      show wp _ _ 187 45 [(0, .ref r0)] [] _ H87500 _
      exact wp_lc (ks := [0]) (wl_c rfl wl_n) rfl (by decide) (jn87083 H87500 w87504 f87513 (by omega) (by omega) (by omega) (by omega) (by omega))
  have f87514 : wfr [(42, 9), (42, 13), (42, 14)] T H87005 H87005 := wfr.rf
  refine wp_of e187 c187_17 (rw_if_ne (p1 := 25) (p2 := 20) (by decide) rfl ⟨by omega, by omega⟩ (fun c87515 => ?_) (fun c87515 => ?_))
  · exact wp_lc (ks := [0]) (wl_c rfl wl_n) rfl (by decide) (jn87043 H87005 w87009 f87514 (by omega) (by omega) (by omega) (by omega) (by omega))
  · refine wp_of e187 c187_20 (rw_aload_n (pc' := 21) (v := .ref r0) rfl rfl rfl ?_)
    refine wp_of e187 c187_21 (rw_iconst (pc' := 22) rfl ?_)
    refine wp_of e187 c187_22 (xc_V (pc' := 25) (r := r0) (as := [vI 1]) (st := []) (lm_9_121) rfl rfl (Nat.le_of_ble_eq_true rfl) w87009 g0 sh_42 (by decide) rfl (by decide) (s_181 w87009 g0 ⟨by omega, by omega⟩ (by omega)) (fun R87516 T87517 H87518 p87519 => ?_))
    obtain ⟨e87520, w87522, f87523, e87521, p87524, p87525, p87526, p87527, p87528, p87529⟩ := p87519
    subst e87520
    subst e87521
    have f87530 := f87016.tr f87523 rfl
    have f87531 := f87514.tr f87523 rfl
    show wp _ _ 187 25 [(0, .ref r0)] [] _ H87518 _
    exact wp_lc (ks := [0]) (wl_c rfl wl_n) rfl (by decide) (jn87043 H87518 w87522 f87531 (by omega) (by omega) (by omega) (by omega) (by omega))
