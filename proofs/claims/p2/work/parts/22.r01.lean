/-! methods of the reference (own work, written by wip/gen2/sx.py) -/
/-! StrikeAwakeModel.isWord(Ljava/lang/String;)Z -/
theorem e178 : wq_en 178 = some (9, 2, false, some FieldType.boolean) := rfl
theorem c178_0 : mc_cd 178 0 = some (.aload_n 0, 1) := by decide +kernel
theorem c178_1 : mc_cd 178 1 = some (.getfield 75, 3) := by decide +kernel
theorem c178_4 : mc_cd 178 4 = some (.iconst 2, 1) := by decide +kernel
theorem c178_5 : mc_cd 178 5 = some (.if_icmp .ne 19, 3) := by decide +kernel
theorem c178_8 : mc_cd 178 8 = some (.aload_n 0, 1) := by decide +kernel
theorem c178_9 : mc_cd 178 9 = some (.getfield 94, 3) := by decide +kernel
theorem c178_12 : mc_cd 178 12 = some (.aload_n 1, 1) := by decide +kernel
theorem c178_13 : mc_cd 178 13 = some (.invokestatic 110, 3) := by decide +kernel
theorem c178_16 : mc_cd 178 16 = some (.lcmp, 1) := by decide +kernel
theorem c178_17 : mc_cd 178 17 = some (.ifCond .ne 7, 3) := by decide +kernel
theorem c178_20 : mc_cd 178 20 = some (.iconst 1, 1) := by decide +kernel
theorem c178_21 : mc_cd 178 21 = some (.goto 4, 3) := by decide +kernel
theorem c178_24 : mc_cd 178 24 = some (.iconst 0, 1) := by decide +kernel
theorem c178_25 : mc_cd 178 25 = some (.ireturn, 1) := by decide +kernel
abbrev q_178 (r0 : Nat) (s1 : Nat) (T : wq_T) (H : wq_H) : Option Value → wq_T → wq_H → Prop := fun r T' H' => T = T' ∧ H = H' ∧ ∃ z : Int, some (vI z) = r ∧ (0 ≤ z ∧ z ≤ 1)
set_option maxHeartbeats 4000000 in
theorem s_178 {kt : Nat → Option mc_E} {T : wq_T} {H : wq_H} {r0 : Nat} {s1 : Nat} {t1 : List Int32} (hW : WT T H) (g0 : T.2.2.2 r0 = some 42) (h1 : mc_find mc_sb s1 = some t1) : wpc kt 2 178 [.ref r0, .ref s1] T H (q_178 r0 s1 T H) := by
  refine wp_enter e178 (Nat.le_of_ble_eq_true rfl) rfl ?_
  show wp _ _ 178 0 [(0, .ref r0), (1, .ref s1)] [] _ H _
  refine wp_of e178 c178_0 (rw_aload_n (pc' := 1) (v := .ref r0) rfl rfl rfl ?_)
  refine wp_of e178 c178_1 (xg_I (pc' := 4) lf_9_75 hW g0 sh_42 (by decide) (by decide) ty_42_9 rfl rfl (fun b85083 b85084 => ?_))
  refine wp_of e178 c178_4 (rw_iconst (pc' := 5) rfl ?_)
  refine wp_of e178 c178_5 (rw_icmp_ne (p1 := 24) (p2 := 8) (by decide) rfl ⟨by omega, by omega⟩ ⟨by omega, by omega⟩ (fun c85085 => ?_) (fun c85085 => ?_))
  · refine wp_of e178 c178_24 (rw_iconst (pc' := 25) rfl ?_)
    exact wp_zreturn e178 c178_25 rfl (by omega) ⟨rfl, rfl, 0, rfl, ⟨by omega, by omega⟩⟩
  · refine wp_of e178 c178_8 (rw_aload_n (pc' := 9) (v := .ref r0) rfl rfl rfl ?_)
    refine wp_of e178 c178_9 (xg_L (pc' := 12) lf_9_94 hW g0 sh_42 (by decide) (by decide) ty_42_15 rfl rfl (fun b85086 b85087 => ?_))
    refine wp_of e178 c178_12 (rw_aload_n (pc' := 13) (v := .ref s1) rfl rfl rfl ?_)
    refine wp_of e178 c178_13 (xc_S (pc' := 16) (as := [.ref s1]) (st := [vL (H r0 15)]) (lm_9_110) rfl rfl (Nat.le_of_ble_eq_true rfl) rfl (by decide) (s_179 hW h1) (fun R85088 T85089 H85090 p85091 => ?_))
    obtain ⟨e85092, e85094, z85095, e85093, b85096⟩ := p85091
    subst e85092
    subst e85093
    subst e85094
    show wp _ _ 178 16 [(0, .ref r0), (1, .ref s1)] [vL z85095, vL (H r0 15)] _ H _
    refine wp_of e178 c178_16 (rw_lcmp (pc' := 17) rfl ⟨by omega, by omega⟩ ⟨by omega, by omega⟩ ?_)
    have b85097 := wq_cmp_b (H r0 15) z85095
    refine wp_of e178 c178_17 (rw_if_ne (p1 := 24) (p2 := 20) (by decide) rfl ⟨by omega, by omega⟩ (fun c85098 => ?_) (fun c85098 => ?_))
    · refine wp_of e178 c178_24 (rw_iconst (pc' := 25) rfl ?_)
      exact wp_zreturn e178 c178_25 rfl (by omega) ⟨rfl, rfl, 0, rfl, ⟨by omega, by omega⟩⟩
    · refine wp_of e178 c178_20 (rw_iconst (pc' := 21) rfl ?_)
      refine wp_of e178 c178_21 (rw_goto (p1 := 25) (by decide) ?_)
      exact wp_zreturn e178 c178_25 rfl (by omega) ⟨rfl, rfl, 1, rfl, ⟨by omega, by omega⟩⟩
/-! StrikeAwakeModel.wrong(I)V -/
theorem e181 : wq_en 181 = some (9, 2, false, none) := rfl
theorem c181_0 : mc_cd 181 0 = some (.aload_n 0, 1) := by decide +kernel
theorem c181_1 : mc_cd 181 1 = some (.getfield 75, 3) := by decide +kernel
theorem c181_4 : mc_cd 181 4 = some (.iconst 5, 1) := by decide +kernel
theorem c181_5 : mc_cd 181 5 = some (.if_icmp .ne 4, 3) := by decide +kernel
theorem c181_8 : mc_cd 181 8 = some (.return_, 1) := by decide +kernel
theorem c181_9 : mc_cd 181 9 = some (.aload_n 0, 1) := by decide +kernel
theorem c181_10 : mc_cd 181 10 = some (.iload_n 1, 1) := by decide +kernel
theorem c181_11 : mc_cd 181 11 = some (.putfield 104, 3) := by decide +kernel
theorem c181_14 : mc_cd 181 14 = some (.aload_n 0, 1) := by decide +kernel
theorem c181_15 : mc_cd 181 15 = some (.aload_n 0, 1) := by decide +kernel
theorem c181_16 : mc_cd 181 16 = some (.getfield 84, 3) := by decide +kernel
theorem c181_19 : mc_cd 181 19 = some (.putfield 107, 3) := by decide +kernel
theorem c181_22 : mc_cd 181 22 = some (.aload_n 0, 1) := by decide +kernel
theorem c181_23 : mc_cd 181 23 = some (.iconst 5, 1) := by decide +kernel
theorem c181_24 : mc_cd 181 24 = some (.putfield 75, 3) := by decide +kernel
theorem c181_27 : mc_cd 181 27 = some (.return_, 1) := by decide +kernel
abbrev q_181 (r0 : Nat) (a1 : Int) (T : wq_T) (H : wq_H) : Option Value → wq_T → wq_H → Prop := fun r T' H' => T = T' ∧ WT T H' ∧ wfr [(42, 9), (42, 13), (42, 14)] T H H' ∧ none = r ∧ (wJ H' r0 = 1) ∧ (H r0 10 ≤ H' r0 10) ∧ (wOV H r0 ≤ wOV H' r0) ∧ (wOV H' r0 ≤ 1) ∧ (H' r0 9 = 5) ∧ (wOV H' r0 = 1)
set_option maxHeartbeats 4000000 in
theorem s_181 {kt : Nat → Option mc_E} {T : wq_T} {H : wq_H} {r0 : Nat} {a1 : Int} (hW : WT T H) (g0 : T.2.2.2 r0 = some 42) (i1 : (-2147483648) ≤ a1 ∧ a1 ≤ 2147483647) (p0 : wJ H r0 = 1) : wpc kt 1 181 [.ref r0, vI a1] T H (q_181 r0 a1 T H) := by
  refine wp_enter e181 (Nat.le_of_ble_eq_true rfl) rfl ?_
  have f0 : wfr [(42, 9), (42, 13), (42, 14)] T H H := wfr.rf
  show wp _ _ 181 0 [(0, .ref r0), (1, vI a1)] [] _ H _
  have b85125 : (-2147483648) ≤ H r0 10 ∧ H r0 10 ≤ 2147483647 := hW.box g0 (n := 33) rfl (by decide) rfl
  have b85126 : 0 ≤ H r0 9 ∧ H r0 9 ≤ 5 := hW.box g0 (n := 33) rfl (by decide) rfl
  have b85127 : 0 ≤ H r0 8 ∧ H r0 8 ≤ 900 := hW.box g0 (n := 33) rfl (by decide) rfl
  have hb0 := wOV_b (H := H) (m := r0)
  have hj := wJ_1.mp p0
  have ho := wOV_e (H := H) (m := r0)
  refine wp_of e181 c181_0 (rw_aload_n (pc' := 1) (v := .ref r0) rfl rfl rfl ?_)
  refine wp_of e181 c181_1 (xg_I (pc' := 4) lf_9_75 hW g0 sh_42 (by decide) (by decide) ty_42_9 rfl rfl (fun b85128 b85129 => ?_))
  have k85130 := wOV_e (H := H) (m := r0)
  refine wp_of e181 c181_4 (rw_iconst (pc' := 5) rfl ?_)
  refine wp_of e181 c181_5 (rw_icmp_ne (p1 := 9) (p2 := 8) (by decide) rfl ⟨by omega, by omega⟩ ⟨by omega, by omega⟩ (fun c85131 => ?_) (fun c85131 => ?_))
  · refine wp_of e181 c181_9 (rw_aload_n (pc' := 10) (v := .ref r0) rfl rfl rfl ?_)
    refine wp_of e181 c181_10 (rw_iload_n (pc' := 11) (z := a1) rfl rfl ?_)
    refine wp_of e181 c181_11 (xp_I (pc' := 14) lf_9_104 hW g0 sh_42 (by decide) (by decide) ty_42_13 rfl rfl (by omega) (by omega) ⟨by omega, by omega⟩ rfl (fun H85132 e85133 w85134 => ?_))
    have f85135 := f0.put' e85133 g0 rfl
    have k85136 : H85132 r0 13 = a1 := wq_u_s e85133
    refine wp_of e181 c181_14 (rw_aload_n (pc' := 15) (v := .ref r0) rfl rfl rfl ?_)
    refine wp_of e181 c181_15 (rw_aload_n (pc' := 16) (v := .ref r0) rfl rfl rfl ?_)
    have k85137 : H85132 r0 10 = H r0 10 := (wq_u_j e85133 rfl)
    refine wp_of e181 c181_16 (xg_I (pc' := 19) lf_9_84 w85134 g0 sh_42 (by decide) (by decide) ty_42_10 rfl rfl (fun b85138 b85139 => ?_))
    refine wp_of e181 c181_19 (xp_I (pc' := 22) lf_9_107 w85134 g0 sh_42 (by decide) (by decide) ty_42_14 rfl rfl (by omega) (by omega) ⟨by omega, by omega⟩ rfl (fun H85140 e85141 w85142 => ?_))
    have f85143 := f85135.put' e85141 g0 rfl
    have k85144 : H85140 r0 14 = H85132 r0 10 := wq_u_s e85141
    refine wp_of e181 c181_22 (rw_aload_n (pc' := 23) (v := .ref r0) rfl rfl rfl ?_)
    refine wp_of e181 c181_23 (rw_iconst (pc' := 24) rfl ?_)
    refine wp_of e181 c181_24 (xp_I (pc' := 27) lf_9_75 w85142 g0 sh_42 (by decide) (by decide) ty_42_9 rfl rfl (by omega) (by omega) ⟨by omega, by omega⟩ rfl (fun H85145 e85146 w85147 => ?_))
    have f85148 := f85143.put' e85146 g0 rfl
    have k85149 : H85145 r0 9 = 5 := wq_u_s e85146
    have k85150 : H85145 r0 8 = H r0 8 := ((wq_u_j e85146 rfl).trans ((wq_u_j e85141 rfl).trans (wq_u_j e85133 rfl)))
    have k85151 : H85145 r0 10 = H85132 r0 10 := ((wq_u_j e85146 rfl).trans (wq_u_j e85141 rfl))
    have k85152 := wOV_e (H := H85145) (m := r0)
    have k85153 : wJ H85145 r0 = 1 := wJ_1.mpr ⟨by omega, by omega⟩
    exact wp_return e181 c181_27 rfl ⟨rfl, w85147, f85148, rfl, by omega, by omega, by omega, by omega, by omega, by omega⟩
  · exact wp_return e181 c181_8 rfl ⟨rfl, hW, f0, rfl, by omega, by omega, by omega, by omega, by omega, by omega⟩
/-! StrikeAwakeModel.needs(Ljava/lang/String;)V -/
theorem e183 : wq_en 183 = some (9, 2, false, none) := rfl
theorem c183_0 : mc_cd 183 0 = some (.aload_n 0, 1) := by decide +kernel
theorem c183_1 : mc_cd 183 1 = some (.aload_n 1, 1) := by decide +kernel
theorem c183_2 : mc_cd 183 2 = some (.invokevirtual 114, 3) := by decide +kernel
theorem c183_5 : mc_cd 183 5 = some (.ifCond .ne 8, 3) := by decide +kernel
theorem c183_8 : mc_cd 183 8 = some (.aload_n 0, 1) := by decide +kernel
theorem c183_9 : mc_cd 183 9 = some (.iconst 1, 1) := by decide +kernel
theorem c183_10 : mc_cd 183 10 = some (.invokevirtual 121, 3) := by decide +kernel
theorem c183_13 : mc_cd 183 13 = some (.aload_n 0, 1) := by decide +kernel
theorem c183_14 : mc_cd 183 14 = some (.invokevirtual 118, 3) := by decide +kernel
theorem c183_17 : mc_cd 183 17 = some (.return_, 1) := by decide +kernel
abbrev q_183 (r0 : Nat) (s1 : Nat) (T : wq_T) (H : wq_H) : Option Value → wq_T → wq_H → Prop := fun r T' H' => T = T' ∧ WT T H' ∧ wfr [(42, 8), (42, 9), (42, 10), (42, 11), (42, 12), (42, 13), (42, 14), (42, 15)] T H H' ∧ none = r ∧ (wJ H' r0 = 1) ∧ (H r0 10 ≤ H' r0 10) ∧ (wOV H r0 ≤ wOV H' r0) ∧ (wOV H' r0 ≤ 1)
set_option maxHeartbeats 4000000 in
theorem s_183 {kt : Nat → Option mc_E} {T : wq_T} {H : wq_H} {r0 : Nat} {s1 : Nat} {t1 : List Int32} (hW : WT T H) (g0 : T.2.2.2 r0 = some 42) (h1 : mc_find mc_sb s1 = some t1) (p0 : wJ H r0 = 1) : wpc kt 3 183 [.ref r0, .ref s1] T H (q_183 r0 s1 T H) := by
  refine wp_enter e183 (Nat.le_of_ble_eq_true rfl) rfl ?_
  have f0 : wfr [(42, 8), (42, 9), (42, 10), (42, 11), (42, 12), (42, 13), (42, 14), (42, 15)] T H H := wfr.rf
  show wp _ _ 183 0 [(0, .ref r0), (1, .ref s1)] [] _ H _
  have b85209 : (-2147483648) ≤ H r0 10 ∧ H r0 10 ≤ 2147483647 := hW.box g0 (n := 33) rfl (by decide) rfl
  have b85210 : 0 ≤ H r0 9 ∧ H r0 9 ≤ 5 := hW.box g0 (n := 33) rfl (by decide) rfl
  have b85211 : 0 ≤ H r0 8 ∧ H r0 8 ≤ 900 := hW.box g0 (n := 33) rfl (by decide) rfl
  have hb0 := wOV_b (H := H) (m := r0)
  refine wp_of e183 c183_0 (rw_aload_n (pc' := 1) (v := .ref r0) rfl rfl rfl ?_)
  refine wp_of e183 c183_1 (rw_aload_n (pc' := 2) (v := .ref s1) rfl rfl rfl ?_)
  refine wp_of e183 c183_2 (xc_V (pc' := 5) (r := r0) (as := [.ref s1]) (st := []) (lm_9_114) rfl rfl (Nat.le_of_ble_eq_true rfl) hW g0 sh_42 (by decide) rfl (by decide) (s_178 hW g0 h1) (fun R85212 T85213 H85214 p85215 => ?_))
  obtain ⟨e85216, e85218, z85219, e85217, b85220⟩ := p85215
  subst e85216
  subst e85217
  subst e85218
  show wp _ _ 183 5 [(0, .ref r0), (1, .ref s1)] [vI z85219] _ H _
  refine wp_of e183 c183_5 (rw_if_ne (p1 := 13) (p2 := 8) (by decide) rfl ⟨by omega, by omega⟩ (fun c85221 => ?_) (fun c85221 => ?_))
  · refine wp_of e183 c183_13 (rw_aload_n (pc' := 14) (v := .ref r0) rfl rfl rfl ?_)
    refine wp_of e183 c183_14 (xc_V (pc' := 17) (r := r0) (as := []) (st := []) (lm_9_118) rfl rfl (Nat.le_of_ble_eq_true rfl) hW g0 sh_42 (by decide) rfl (by decide) (s_172 hW g0 (by omega)) (fun R85222 T85223 H85224 p85225 => ?_))
    obtain ⟨e85226, w85228, f85229, e85227, p85230, p85231, p85232, p85233, p85234, p85235⟩ := p85225
    subst e85226
    subst e85227
    have f85236 := f0.tr f85229 rfl
    show wp _ _ 183 17 [(0, .ref r0), (1, .ref s1)] [] _ H85224 _
    exact wp_return e183 c183_17 rfl ⟨rfl, w85228, f85236, rfl, by omega, by omega, by omega, by omega⟩
  · refine wp_of e183 c183_8 (rw_aload_n (pc' := 9) (v := .ref r0) rfl rfl rfl ?_)
    refine wp_of e183 c183_9 (rw_iconst (pc' := 10) rfl ?_)
    refine wp_of e183 c183_10 (xc_V (pc' := 13) (r := r0) (as := [vI 1]) (st := []) (lm_9_121) rfl rfl (Nat.le_of_ble_eq_true rfl) hW g0 sh_42 (by decide) rfl (by decide) (s_181 hW g0 ⟨by omega, by omega⟩ (by omega)) (fun R85237 T85238 H85239 p85240 => ?_))
    obtain ⟨e85241, w85243, f85244, e85242, p85245, p85246, p85247, p85248, p85249, p85250⟩ := p85240
    subst e85241
    subst e85242
    have f85251 := f0.tr f85244 rfl
    show wp _ _ 183 13 [(0, .ref r0), (1, .ref s1)] [] _ H85239 _
    refine wp_of e183 c183_13 (rw_aload_n (pc' := 14) (v := .ref r0) rfl rfl rfl ?_)
    refine wp_of e183 c183_14 (xc_V (pc' := 17) (r := r0) (as := []) (st := []) (lm_9_118) rfl rfl (Nat.le_of_ble_eq_true rfl) w85243 g0 sh_42 (by decide) rfl (by decide) (s_172 w85243 g0 (by omega)) (fun R85252 T85253 H85254 p85255 => ?_))
    obtain ⟨e85256, w85258, f85259, e85257, p85260, p85261, p85262, p85263, p85264, p85265⟩ := p85255
    subst e85256
    subst e85257
    have f85266 := f85251.tr f85259 rfl
    show wp _ _ 183 17 [(0, .ref r0), (1, .ref s1)] [] _ H85254 _
    exact wp_return e183 c183_17 rfl ⟨rfl, w85258, f85266, rfl, by omega, by omega, by omega, by omega⟩
/-! StrikeAwakeModel.in(III)Z -/
theorem e186 : wq_en 186 = some (9, 3, false, some FieldType.boolean) := rfl
theorem c186_0 : mc_cd 186 0 = some (.iload_n 0, 1) := by decide +kernel
theorem c186_1 : mc_cd 186 1 = some (.iload_n 1, 1) := by decide +kernel
theorem c186_2 : mc_cd 186 2 = some (.if_icmp .lt 12, 3) := by decide +kernel
theorem c186_5 : mc_cd 186 5 = some (.iload_n 0, 1) := by decide +kernel
theorem c186_6 : mc_cd 186 6 = some (.iload_n 2, 1) := by decide +kernel
theorem c186_7 : mc_cd 186 7 = some (.if_icmp .gt 7, 3) := by decide +kernel
theorem c186_10 : mc_cd 186 10 = some (.iconst 1, 1) := by decide +kernel
theorem c186_11 : mc_cd 186 11 = some (.goto 4, 3) := by decide +kernel
theorem c186_14 : mc_cd 186 14 = some (.iconst 0, 1) := by decide +kernel
theorem c186_15 : mc_cd 186 15 = some (.ireturn, 1) := by decide +kernel
abbrev q_186 (a0 : Int) (a1 : Int) (a2 : Int) (T : wq_T) (H : wq_H) : Option Value → wq_T → wq_H → Prop := fun r T' H' => T = T' ∧ H = H' ∧ ∃ z : Int, some (vI z) = r ∧ (0 ≤ z ∧ z ≤ 1) ∧ (z = 0 ∨ (a1 ≤ a0 ∧ a0 ≤ a2))
set_option maxHeartbeats 4000000 in
theorem s_186 {kt : Nat → Option mc_E} {T : wq_T} {H : wq_H} {a0 : Int} {a1 : Int} {a2 : Int} (hW : WT T H) (i0 : (-2147483648) ≤ a0 ∧ a0 ≤ 2147483647) (i1 : (-2147483648) ≤ a1 ∧ a1 ≤ 2147483647) (i2 : (-2147483648) ≤ a2 ∧ a2 ≤ 2147483647) : wpc kt 1 186 [vI a0, vI a1, vI a2] T H (q_186 a0 a1 a2 T H) := by
  refine wp_enter e186 (Nat.le_of_ble_eq_true rfl) rfl ?_
  show wp _ _ 186 0 [(0, vI a0), (1, vI a1), (2, vI a2)] [] _ H _
  refine wp_of e186 c186_0 (rw_iload_n (pc' := 1) (z := a0) rfl rfl ?_)
  refine wp_of e186 c186_1 (rw_iload_n (pc' := 2) (z := a1) rfl rfl ?_)
  refine wp_of e186 c186_2 (rw_icmp_lt (p1 := 14) (p2 := 5) (by decide) rfl ⟨by omega, by omega⟩ ⟨by omega, by omega⟩ (fun c85269 => ?_) (fun c85269 => ?_))
  · refine wp_of e186 c186_14 (rw_iconst (pc' := 15) rfl ?_)
    exact wp_zreturn e186 c186_15 rfl (by omega) ⟨rfl, rfl, 0, rfl, ⟨by omega, by omega⟩, by omega⟩
  · refine wp_of e186 c186_5 (rw_iload_n (pc' := 6) (z := a0) rfl rfl ?_)
    refine wp_of e186 c186_6 (rw_iload_n (pc' := 7) (z := a2) rfl rfl ?_)
    refine wp_of e186 c186_7 (rw_icmp_gt (p1 := 14) (p2 := 10) (by decide) rfl ⟨by omega, by omega⟩ ⟨by omega, by omega⟩ (fun c85270 => ?_) (fun c85270 => ?_))
    · refine wp_of e186 c186_14 (rw_iconst (pc' := 15) rfl ?_)
      exact wp_zreturn e186 c186_15 rfl (by omega) ⟨rfl, rfl, 0, rfl, ⟨by omega, by omega⟩, by omega⟩
    · refine wp_of e186 c186_10 (rw_iconst (pc' := 11) rfl ?_)
      refine wp_of e186 c186_11 (rw_goto (p1 := 15) (by decide) ?_)
      exact wp_zreturn e186 c186_15 rfl (by omega) ⟨rfl, rfl, 1, rfl, ⟨by omega, by omega⟩, by omega⟩
/-! StrikeAwakeModel.whole(II)I -/
theorem e185 : wq_en 185 = some (9, 3, false, some FieldType.int) := rfl
theorem c185_0 : mc_cd 185 0 = some (.aload_n 0, 1) := by decide +kernel
theorem c185_1 : mc_cd 185 1 = some (.getfield 75, 3) := by decide +kernel
theorem c185_4 : mc_cd 185 4 = some (.iconst 3, 1) := by decide +kernel
theorem c185_5 : mc_cd 185 5 = some (.if_icmp .eq 11, 3) := by decide +kernel
theorem c185_8 : mc_cd 185 8 = some (.aload_n 0, 1) := by decide +kernel
theorem c185_9 : mc_cd 185 9 = some (.iconst 1, 1) := by decide +kernel
theorem c185_10 : mc_cd 185 10 = some (.invokevirtual 121, 3) := by decide +kernel
theorem c185_13 : mc_cd 185 13 = some (.goto 20, 3) := by decide +kernel
theorem c185_16 : mc_cd 185 16 = some (.aload_n 0, 1) := by decide +kernel
theorem c185_17 : mc_cd 185 17 = some (.getfield 101, 3) := by decide +kernel
theorem c185_20 : mc_cd 185 20 = some (.iload_n 1, 1) := by decide +kernel
theorem c185_21 : mc_cd 185 21 = some (.iload_n 2, 1) := by decide +kernel
theorem c185_22 : mc_cd 185 22 = some (.invokestatic 125, 3) := by decide +kernel
theorem c185_25 : mc_cd 185 25 = some (.ifCond .ne 8, 3) := by decide +kernel
theorem c185_28 : mc_cd 185 28 = some (.aload_n 0, 1) := by decide +kernel
theorem c185_29 : mc_cd 185 29 = some (.iconst 4, 1) := by decide +kernel
theorem c185_30 : mc_cd 185 30 = some (.invokevirtual 121, 3) := by decide +kernel
theorem c185_33 : mc_cd 185 33 = some (.aload_n 0, 1) := by decide +kernel
theorem c185_34 : mc_cd 185 34 = some (.getfield 75, 3) := by decide +kernel
theorem c185_37 : mc_cd 185 37 = some (.iconst 5, 1) := by decide +kernel
theorem c185_38 : mc_cd 185 38 = some (.if_icmp .ne 7, 3) := by decide +kernel
theorem c185_41 : mc_cd 185 41 = some (.iconst 0, 1) := by decide +kernel
theorem c185_42 : mc_cd 185 42 = some (.goto 7, 3) := by decide +kernel
theorem c185_45 : mc_cd 185 45 = some (.aload_n 0, 1) := by decide +kernel
theorem c185_46 : mc_cd 185 46 = some (.getfield 101, 3) := by decide +kernel
theorem c185_49 : mc_cd 185 49 = some (.ireturn, 1) := by decide +kernel
abbrev q_185 (r0 : Nat) (a1 : Int) (a2 : Int) (T : wq_T) (H : wq_H) : Option Value → wq_T → wq_H → Prop := fun r T' H' => T = T' ∧ WT T H' ∧ wfr [(42, 9), (42, 13), (42, 14)] T H H' ∧ ∃ z : Int, some (vI z) = r ∧ (0 ≤ z ∧ z ≤ 100) ∧ (wJ H' r0 = 1) ∧ (H r0 10 ≤ H' r0 10) ∧ (wOV H r0 ≤ wOV H' r0) ∧ (wOV H' r0 ≤ 1) ∧ (z = 0 ∨ (a1 ≤ z ∧ z ≤ a2))
set_option maxHeartbeats 4000000 in
theorem s_185 {kt : Nat → Option mc_E} {T : wq_T} {H : wq_H} {r0 : Nat} {a1 : Int} {a2 : Int} (hW : WT T H) (g0 : T.2.2.2 r0 = some 42) (i1 : 0 ≤ a1 ∧ a1 ≤ 100) (i2 : 0 ≤ a2 ∧ a2 ≤ 100) (p0 : wJ H r0 = 1) : wpc kt 2 185 [.ref r0, vI a1, vI a2] T H (q_185 r0 a1 a2 T H) := by
  refine wp_enter e185 (Nat.le_of_ble_eq_true rfl) rfl ?_
  have f0 : wfr [(42, 9), (42, 13), (42, 14)] T H H := wfr.rf
  show wp _ _ 185 0 [(0, .ref r0), (1, vI a1), (2, vI a2)] [] _ H _
  have b85341 : (-2147483648) ≤ H r0 10 ∧ H r0 10 ≤ 2147483647 := hW.box g0 (n := 33) rfl (by decide) rfl
  have b85342 : 0 ≤ H r0 9 ∧ H r0 9 ≤ 5 := hW.box g0 (n := 33) rfl (by decide) rfl
  have b85343 : 0 ≤ H r0 8 ∧ H r0 8 ≤ 900 := hW.box g0 (n := 33) rfl (by decide) rfl
  have hb0 := wOV_b (H := H) (m := r0)
  refine wp_of e185 c185_0 (rw_aload_n (pc' := 1) (v := .ref r0) rfl rfl rfl ?_)
  refine wp_of e185 c185_1 (xg_I (pc' := 4) lf_9_75 hW g0 sh_42 (by decide) (by decide) ty_42_9 rfl rfl (fun b85344 b85345 => ?_))
  have k85346 := wOV_e (H := H) (m := r0)
  refine wp_of e185 c185_4 (rw_iconst (pc' := 5) rfl ?_)
  refine wp_of e185 c185_5 (rw_icmp_eq (p1 := 16) (p2 := 8) (by decide) rfl ⟨by omega, by omega⟩ ⟨by omega, by omega⟩ (fun c85347 => ?_) (fun c85347 => ?_))
  · refine wp_of e185 c185_16 (rw_aload_n (pc' := 17) (v := .ref r0) rfl rfl rfl ?_)
    refine wp_of e185 c185_17 (xg_I (pc' := 20) lf_9_101 hW g0 sh_42 (by decide) (by decide) ty_42_12 rfl rfl (fun b85348 b85349 => ?_))
    refine wp_of e185 c185_20 (rw_iload_n (pc' := 21) (z := a1) rfl rfl ?_)
    refine wp_of e185 c185_21 (rw_iload_n (pc' := 22) (z := a2) rfl rfl ?_)
    refine wp_of e185 c185_22 (xc_S (pc' := 25) (as := [vI (H r0 12), vI a1, vI a2]) (st := []) (lm_9_125) rfl rfl (Nat.le_of_ble_eq_true rfl) rfl (by decide) (s_186 hW ⟨by omega, by omega⟩ ⟨by omega, by omega⟩ ⟨by omega, by omega⟩) (fun R85350 T85351 H85352 p85353 => ?_))
    obtain ⟨e85354, e85356, z85358, e85355, b85359, p85357⟩ := p85353
    subst e85354
    subst e85355
    subst e85356
    show wp _ _ 185 25 [(0, .ref r0), (1, vI a1), (2, vI a2)] [vI z85358] _ H _
    refine wp_of e185 c185_25 (rw_if_ne (p1 := 33) (p2 := 28) (by decide) rfl ⟨by omega, by omega⟩ (fun c85360 => ?_) (fun c85360 => ?_))
    · refine wp_of e185 c185_33 (rw_aload_n (pc' := 34) (v := .ref r0) rfl rfl rfl ?_)
      refine wp_of e185 c185_34 (xg_I (pc' := 37) lf_9_75 hW g0 sh_42 (by decide) (by decide) ty_42_9 rfl rfl (fun b85361 b85362 => ?_))
      have k85363 := wOV_e (H := H) (m := r0)
      refine wp_of e185 c185_37 (rw_iconst (pc' := 38) rfl ?_)
      refine wp_of e185 c185_38 (rw_icmp_ne (p1 := 45) (p2 := 41) (by decide) rfl ⟨by omega, by omega⟩ ⟨by omega, by omega⟩ (fun c85364 => ?_) (fun c85364 => ?_))
      · refine wp_of e185 c185_45 (rw_aload_n (pc' := 46) (v := .ref r0) rfl rfl rfl ?_)
        refine wp_of e185 c185_46 (xg_I (pc' := 49) lf_9_101 hW g0 sh_42 (by decide) (by decide) ty_42_12 rfl rfl (fun b85365 b85366 => ?_))
        exact wp_ireturn e185 c185_49 rfl ⟨rfl, hW, f0, H r0 12, rfl, ⟨by omega, by omega⟩, by omega, by omega, by omega, by omega, by omega⟩
      · exfalso
        omega
    · refine wp_of e185 c185_28 (rw_aload_n (pc' := 29) (v := .ref r0) rfl rfl rfl ?_)
      refine wp_of e185 c185_29 (rw_iconst (pc' := 30) rfl ?_)
      refine wp_of e185 c185_30 (xc_V (pc' := 33) (r := r0) (as := [vI 4]) (st := []) (lm_9_121) rfl rfl (Nat.le_of_ble_eq_true rfl) hW g0 sh_42 (by decide) rfl (by decide) (s_181 hW g0 ⟨by omega, by omega⟩ (by omega)) (fun R85367 T85368 H85369 p85370 => ?_))
      obtain ⟨e85371, w85373, f85374, e85372, p85375, p85376, p85377, p85378, p85379, p85380⟩ := p85370
      subst e85371
      subst e85372
      have f85381 := f0.tr f85374 rfl
      show wp _ _ 185 33 [(0, .ref r0), (1, vI a1), (2, vI a2)] [] _ H85369 _
      refine wp_of e185 c185_33 (rw_aload_n (pc' := 34) (v := .ref r0) rfl rfl rfl ?_)
      refine wp_of e185 c185_34 (xg_I (pc' := 37) lf_9_75 w85373 g0 sh_42 (by decide) (by decide) ty_42_9 rfl rfl (fun b85382 b85383 => ?_))
      have k85384 := wOV_e (H := H85369) (m := r0)
      refine wp_of e185 c185_37 (rw_iconst (pc' := 38) rfl ?_)
      refine wp_of e185 c185_38 (rw_icmp_ne (p1 := 45) (p2 := 41) (by decide) rfl ⟨by omega, by omega⟩ ⟨by omega, by omega⟩ (fun c85385 => ?_) (fun c85385 => ?_))
      · refine wp_of e185 c185_45 (rw_aload_n (pc' := 46) (v := .ref r0) rfl rfl rfl ?_)
        have k85386 : H85369 r0 12 = H r0 12 := (f85374 r0 12 _ g0 rfl)
        refine wp_of e185 c185_46 (xg_I (pc' := 49) lf_9_101 w85373 g0 sh_42 (by decide) (by decide) ty_42_12 rfl rfl (fun b85387 b85388 => ?_))
        have k85389 : H85369 r0 8 = H r0 8 := (f85374 r0 8 _ g0 rfl)
        exact wp_ireturn e185 c185_49 rfl ⟨rfl, w85373, f85381, H85369 r0 12, rfl, ⟨by omega, by omega⟩, by omega, by omega, by omega, by omega, by omega⟩
      · refine wp_of e185 c185_41 (rw_iconst (pc' := 42) rfl ?_)
        refine wp_of e185 c185_42 (rw_goto (p1 := 49) (by decide) ?_)
        have k85390 : H85369 r0 8 = H r0 8 := (f85374 r0 8 _ g0 rfl)
        exact wp_ireturn e185 c185_49 rfl ⟨rfl, w85373, f85381, 0, rfl, ⟨by omega, by omega⟩, by omega, by omega, by omega, by omega, by omega⟩
  · refine wp_of e185 c185_8 (rw_aload_n (pc' := 9) (v := .ref r0) rfl rfl rfl ?_)
    refine wp_of e185 c185_9 (rw_iconst (pc' := 10) rfl ?_)
    refine wp_of e185 c185_10 (xc_V (pc' := 13) (r := r0) (as := [vI 1]) (st := []) (lm_9_121) rfl rfl (Nat.le_of_ble_eq_true rfl) hW g0 sh_42 (by decide) rfl (by decide) (s_181 hW g0 ⟨by omega, by omega⟩ (by omega)) (fun R85391 T85392 H85393 p85394 => ?_))
    obtain ⟨e85395, w85397, f85398, e85396, p85399, p85400, p85401, p85402, p85403, p85404⟩ := p85394
    subst e85395
    subst e85396
    have f85405 := f0.tr f85398 rfl
    show wp _ _ 185 13 [(0, .ref r0), (1, vI a1), (2, vI a2)] [] _ H85393 _
    refine wp_of e185 c185_13 (rw_goto (p1 := 33) (by decide) ?_)
    refine wp_of e185 c185_33 (rw_aload_n (pc' := 34) (v := .ref r0) rfl rfl rfl ?_)
    refine wp_of e185 c185_34 (xg_I (pc' := 37) lf_9_75 w85397 g0 sh_42 (by decide) (by decide) ty_42_9 rfl rfl (fun b85406 b85407 => ?_))
    have k85408 := wOV_e (H := H85393) (m := r0)
    refine wp_of e185 c185_37 (rw_iconst (pc' := 38) rfl ?_)
    refine wp_of e185 c185_38 (rw_icmp_ne (p1 := 45) (p2 := 41) (by decide) rfl ⟨by omega, by omega⟩ ⟨by omega, by omega⟩ (fun c85409 => ?_) (fun c85409 => ?_))
    · refine wp_of e185 c185_45 (rw_aload_n (pc' := 46) (v := .ref r0) rfl rfl rfl ?_)
      refine wp_of e185 c185_46 (xg_I (pc' := 49) lf_9_101 w85397 g0 sh_42 (by decide) (by decide) ty_42_12 rfl rfl (fun b85410 b85411 => ?_))
      have k85412 : H85393 r0 8 = H r0 8 := (f85398 r0 8 _ g0 rfl)
      exact wp_ireturn e185 c185_49 rfl ⟨rfl, w85397, f85405, H85393 r0 12, rfl, ⟨by omega, by omega⟩, by omega, by omega, by omega, by omega, by omega⟩
    · refine wp_of e185 c185_41 (rw_iconst (pc' := 42) rfl ?_)
      refine wp_of e185 c185_42 (rw_goto (p1 := 49) (by decide) ?_)
      have k85413 : H85393 r0 8 = H r0 8 := (f85398 r0 8 _ g0 rfl)
      exact wp_ireturn e185 c185_49 rfl ⟨rfl, w85397, f85405, 0, rfl, ⟨by omega, by omega⟩, by omega, by omega, by omega, by omega, by omega⟩
/-! StrikeAwakeModel.readWhole(II)I -/
theorem e184 : wq_en 184 = some (9, 4, false, some FieldType.int) := rfl
theorem c184_0 : mc_cd 184 0 = some (.aload_n 0, 1) := by decide +kernel
theorem c184_1 : mc_cd 184 1 = some (.iload_n 1, 1) := by decide +kernel
theorem c184_2 : mc_cd 184 2 = some (.iload_n 2, 1) := by decide +kernel
theorem c184_3 : mc_cd 184 3 = some (.invokevirtual 129, 3) := by decide +kernel
theorem c184_6 : mc_cd 184 6 = some (.istore_n 3, 1) := by decide +kernel
theorem c184_7 : mc_cd 184 7 = some (.aload_n 0, 1) := by decide +kernel
theorem c184_8 : mc_cd 184 8 = some (.invokevirtual 118, 3) := by decide +kernel
theorem c184_11 : mc_cd 184 11 = some (.iload_n 3, 1) := by decide +kernel
theorem c184_12 : mc_cd 184 12 = some (.ireturn, 1) := by decide +kernel
abbrev q_184 (r0 : Nat) (a1 : Int) (a2 : Int) (T : wq_T) (H : wq_H) : Option Value → wq_T → wq_H → Prop := fun r T' H' => T = T' ∧ WT T H' ∧ wfr [(42, 8), (42, 9), (42, 10), (42, 11), (42, 12), (42, 13), (42, 14), (42, 15)] T H H' ∧ ∃ z : Int, some (vI z) = r ∧ (0 ≤ z ∧ z ≤ 100) ∧ (wJ H' r0 = 1) ∧ (H r0 10 ≤ H' r0 10) ∧ (wOV H r0 ≤ wOV H' r0) ∧ (wOV H' r0 ≤ 1) ∧ (z = 0 ∨ (a1 ≤ z ∧ z ≤ a2))
set_option maxHeartbeats 4000000 in
theorem s_184 {kt : Nat → Option mc_E} {T : wq_T} {H : wq_H} {r0 : Nat} {a1 : Int} {a2 : Int} (hW : WT T H) (g0 : T.2.2.2 r0 = some 42) (i1 : 0 ≤ a1 ∧ a1 ≤ 100) (i2 : 0 ≤ a2 ∧ a2 ≤ 100) (p0 : wJ H r0 = 1) : wpc kt 3 184 [.ref r0, vI a1, vI a2] T H (q_184 r0 a1 a2 T H) := by
  refine wp_enter e184 (Nat.le_of_ble_eq_true rfl) rfl ?_
  have f0 : wfr [(42, 8), (42, 9), (42, 10), (42, 11), (42, 12), (42, 13), (42, 14), (42, 15)] T H H := wfr.rf
  show wp _ _ 184 0 [(0, .ref r0), (1, vI a1), (2, vI a2)] [] _ H _
  have b85445 : (-2147483648) ≤ H r0 10 ∧ H r0 10 ≤ 2147483647 := hW.box g0 (n := 33) rfl (by decide) rfl
  have b85446 : 0 ≤ H r0 9 ∧ H r0 9 ≤ 5 := hW.box g0 (n := 33) rfl (by decide) rfl
  have b85447 : 0 ≤ H r0 8 ∧ H r0 8 ≤ 900 := hW.box g0 (n := 33) rfl (by decide) rfl
  have hb0 := wOV_b (H := H) (m := r0)
  refine wp_of e184 c184_0 (rw_aload_n (pc' := 1) (v := .ref r0) rfl rfl rfl ?_)
  refine wp_of e184 c184_1 (rw_iload_n (pc' := 2) (z := a1) rfl rfl ?_)
  refine wp_of e184 c184_2 (rw_iload_n (pc' := 3) (z := a2) rfl rfl ?_)
  refine wp_of e184 c184_3 (xc_V (pc' := 6) (r := r0) (as := [vI a1, vI a2]) (st := []) (lm_9_129) rfl rfl (Nat.le_of_ble_eq_true rfl) hW g0 sh_42 (by decide) rfl (by decide) (s_185 hW g0 ⟨by omega, by omega⟩ ⟨by omega, by omega⟩ (by omega)) (fun R85448 T85449 H85450 p85451 => ?_))
  obtain ⟨e85452, w85454, f85455, z85461, e85453, b85462, p85456, p85457, p85458, p85459, p85460⟩ := p85451
  subst e85452
  subst e85453
  have f85463 := f0.tr f85455 rfl
  show wp _ _ 184 6 [(0, .ref r0), (1, vI a1), (2, vI a2)] [vI z85461] _ H85450 _
  refine wp_of e184 c184_6 (rw_istore_n (pc' := 7) (z := z85461) (L' := [(3, vI z85461), (0, .ref r0), (1, vI a1), (2, vI a2)]) rfl rfl rfl ?_)
  refine wp_of e184 c184_7 (rw_aload_n (pc' := 8) (v := .ref r0) rfl rfl rfl ?_)
  refine wp_of e184 c184_8 (xc_V (pc' := 11) (r := r0) (as := []) (st := []) (lm_9_118) rfl rfl (Nat.le_of_ble_eq_true rfl) w85454 g0 sh_42 (by decide) rfl (by decide) (s_172 w85454 g0 (by omega)) (fun R85464 T85465 H85466 p85467 => ?_))
  obtain ⟨e85468, w85470, f85471, e85469, p85472, p85473, p85474, p85475, p85476, p85477⟩ := p85467
  subst e85468
  subst e85469
  have f85478 := f85463.tr f85471 rfl
  show wp _ _ 184 11 [(3, vI z85461), (0, .ref r0), (1, vI a1), (2, vI a2)] [] _ H85466 _
  refine wp_of e184 c184_11 (rw_iload_n (pc' := 12) (z := z85461) rfl rfl ?_)
  exact wp_ireturn e184 c184_12 rfl ⟨rfl, w85470, f85478, z85461, rfl, ⟨by omega, by omega⟩, by omega, by omega, by omega, by omega, by omega⟩
/-! StrikeAwakeModel.readPart(Ljava/lang/String;II)I -/
theorem e182 : wq_en 182 = some (9, 4, false, some FieldType.int) := rfl
theorem c182_0 : mc_cd 182 0 = some (.aload_n 0, 1) := by decide +kernel
theorem c182_1 : mc_cd 182 1 = some (.aload_n 1, 1) := by decide +kernel
theorem c182_2 : mc_cd 182 2 = some (.invokevirtual 133, 3) := by decide +kernel
theorem c182_5 : mc_cd 182 5 = some (.aload_n 0, 1) := by decide +kernel
theorem c182_6 : mc_cd 182 6 = some (.iload_n 2, 1) := by decide +kernel
theorem c182_7 : mc_cd 182 7 = some (.iload_n 3, 1) := by decide +kernel
theorem c182_8 : mc_cd 182 8 = some (.invokevirtual 137, 3) := by decide +kernel
theorem c182_11 : mc_cd 182 11 = some (.ireturn, 1) := by decide +kernel
abbrev q_182 (r0 : Nat) (s1 : Nat) (a2 : Int) (a3 : Int) (T : wq_T) (H : wq_H) : Option Value → wq_T → wq_H → Prop := fun r T' H' => T = T' ∧ WT T H' ∧ wfr [(42, 8), (42, 9), (42, 10), (42, 11), (42, 12), (42, 13), (42, 14), (42, 15)] T H H' ∧ ∃ z : Int, some (vI z) = r ∧ (0 ≤ z ∧ z ≤ 100) ∧ (wJ H' r0 = 1) ∧ (H r0 10 ≤ H' r0 10) ∧ (wOV H r0 ≤ wOV H' r0) ∧ (wOV H' r0 ≤ 1) ∧ (z = 0 ∨ (a2 ≤ z ∧ z ≤ a3))
set_option maxHeartbeats 4000000 in
theorem s_182 {kt : Nat → Option mc_E} {T : wq_T} {H : wq_H} {r0 : Nat} {s1 : Nat} {t1 : List Int32} {a2 : Int} {a3 : Int} (hW : WT T H) (g0 : T.2.2.2 r0 = some 42) (h1 : mc_find mc_sb s1 = some t1) (i2 : 0 ≤ a2 ∧ a2 ≤ 100) (i3 : 0 ≤ a3 ∧ a3 ≤ 100) (p0 : wJ H r0 = 1) : wpc kt 4 182 [.ref r0, .ref s1, vI a2, vI a3] T H (q_182 r0 s1 a2 a3 T H) := by
  refine wp_enter e182 (Nat.le_of_ble_eq_true rfl) rfl ?_
  have f0 : wfr [(42, 8), (42, 9), (42, 10), (42, 11), (42, 12), (42, 13), (42, 14), (42, 15)] T H H := wfr.rf
  show wp _ _ 182 0 [(0, .ref r0), (1, .ref s1), (2, vI a2), (3, vI a3)] [] _ H _
  have b85508 : (-2147483648) ≤ H r0 10 ∧ H r0 10 ≤ 2147483647 := hW.box g0 (n := 33) rfl (by decide) rfl
  have b85509 : 0 ≤ H r0 9 ∧ H r0 9 ≤ 5 := hW.box g0 (n := 33) rfl (by decide) rfl
  have b85510 : 0 ≤ H r0 8 ∧ H r0 8 ≤ 900 := hW.box g0 (n := 33) rfl (by decide) rfl
  have hb0 := wOV_b (H := H) (m := r0)
  refine wp_of e182 c182_0 (rw_aload_n (pc' := 1) (v := .ref r0) rfl rfl rfl ?_)
  refine wp_of e182 c182_1 (rw_aload_n (pc' := 2) (v := .ref s1) rfl rfl rfl ?_)
  refine wp_of e182 c182_2 (xc_V (pc' := 5) (r := r0) (as := [.ref s1]) (st := []) (lm_9_133) rfl rfl (Nat.le_of_ble_eq_true rfl) hW g0 sh_42 (by decide) rfl (by decide) (s_183 hW g0 h1 (by omega)) (fun R85511 T85512 H85513 p85514 => ?_))
  obtain ⟨e85515, w85517, f85518, e85516, p85519, p85520, p85521, p85522⟩ := p85514
  subst e85515
  subst e85516
  have f85523 := f0.tr f85518 rfl
  show wp _ _ 182 5 [(0, .ref r0), (1, .ref s1), (2, vI a2), (3, vI a3)] [] _ H85513 _
  refine wp_of e182 c182_5 (rw_aload_n (pc' := 6) (v := .ref r0) rfl rfl rfl ?_)
  refine wp_of e182 c182_6 (rw_iload_n (pc' := 7) (z := a2) rfl rfl ?_)
  refine wp_of e182 c182_7 (rw_iload_n (pc' := 8) (z := a3) rfl rfl ?_)
  refine wp_of e182 c182_8 (xc_V (pc' := 11) (r := r0) (as := [vI a2, vI a3]) (st := []) (lm_9_137) rfl rfl (Nat.le_of_ble_eq_true rfl) w85517 g0 sh_42 (by decide) rfl (by decide) (s_184 w85517 g0 ⟨by omega, by omega⟩ ⟨by omega, by omega⟩ (by omega)) (fun R85524 T85525 H85526 p85527 => ?_))
  obtain ⟨e85528, w85530, f85531, z85537, e85529, b85538, p85532, p85533, p85534, p85535, p85536⟩ := p85527
  subst e85528
  subst e85529
  have f85539 := f85523.tr f85531 rfl
  show wp _ _ 182 11 [(0, .ref r0), (1, .ref s1), (2, vI a2), (3, vI a3)] [vI z85537] _ H85526 _
  exact wp_ireturn e182 c182_11 rfl ⟨rfl, w85530, f85539, z85537, rfl, ⟨by omega, by omega⟩, by omega, by omega, by omega, by omega, by omega⟩
/-! StrikeAwakeModel.readLaw()V -/
theorem e180 : wq_en 180 = some (9, 2, false, none) := rfl
theorem c180_0 : mc_cd 180 0 = some (.aload_n 0, 1) := by decide +kernel
theorem c180_1 : mc_cd 180 1 = some (.getfield 166, 3) := by decide +kernel
theorem c180_4 : mc_cd 180 4 = some (.getfield 185, 3) := by decide +kernel
theorem c180_7 : mc_cd 180 7 = some (.ifCond .le 8, 3) := by decide +kernel
theorem c180_10 : mc_cd 180 10 = some (.aload_n 0, 1) := by decide +kernel
theorem c180_11 : mc_cd 180 11 = some (.iconst 3, 1) := by decide +kernel
theorem c180_12 : mc_cd 180 12 = some (.invokevirtual 121, 3) := by decide +kernel
theorem c180_15 : mc_cd 180 15 = some (.aload_n 0, 1) := by decide +kernel
theorem c180_16 : mc_cd 180 16 = some (.invokevirtual 118, 3) := by decide +kernel
theorem c180_19 : mc_cd 180 19 = some (.aload_n 0, 1) := by decide +kernel
theorem c180_20 : mc_cd 180 20 = some (.ldc 215, 2) := by decide +kernel
theorem c180_22 : mc_cd 180 22 = some (.iconst 1, 1) := by decide +kernel
theorem c180_23 : mc_cd 180 23 = some (.bipush 24, 2) := by decide +kernel
theorem c180_25 : mc_cd 180 25 = some (.invokevirtual 216, 3) := by decide +kernel
theorem c180_28 : mc_cd 180 28 = some (.istore_n 1, 1) := by decide +kernel
theorem c180_29 : mc_cd 180 29 = some (.aload_n 0, 1) := by decide +kernel
theorem c180_30 : mc_cd 180 30 = some (.getfield 166, 3) := by decide +kernel
theorem c180_33 : mc_cd 180 33 = some (.aload_n 0, 1) := by decide +kernel
theorem c180_34 : mc_cd 180 34 = some (.ldc 220, 2) := by decide +kernel
theorem c180_36 : mc_cd 180 36 = some (.iconst 0, 1) := by decide +kernel
theorem c180_37 : mc_cd 180 37 = some (.bipush 9, 2) := by decide +kernel
theorem c180_39 : mc_cd 180 39 = some (.invokevirtual 216, 3) := by decide +kernel
theorem c180_42 : mc_cd 180 42 = some (.putfield 222, 3) := by decide +kernel
theorem c180_45 : mc_cd 180 45 = some (.aload_n 0, 1) := by decide +kernel
theorem c180_46 : mc_cd 180 46 = some (.getfield 166, 3) := by decide +kernel
theorem c180_49 : mc_cd 180 49 = some (.aload_n 0, 1) := by decide +kernel
theorem c180_50 : mc_cd 180 50 = some (.ldc 224, 2) := by decide +kernel
theorem c180_52 : mc_cd 180 52 = some (.iconst 0, 1) := by decide +kernel
theorem c180_53 : mc_cd 180 53 = some (.iconst 3, 1) := by decide +kernel
theorem c180_54 : mc_cd 180 54 = some (.invokevirtual 216, 3) := by decide +kernel
theorem c180_57 : mc_cd 180 57 = some (.putfield 226, 3) := by decide +kernel
theorem c180_60 : mc_cd 180 60 = some (.aload_n 0, 1) := by decide +kernel
theorem c180_61 : mc_cd 180 61 = some (.getfield 75, 3) := by decide +kernel
theorem c180_64 : mc_cd 180 64 = some (.iconst 5, 1) := by decide +kernel
theorem c180_65 : mc_cd 180 65 = some (.if_icmp .eq 11, 3) := by decide +kernel
theorem c180_68 : mc_cd 180 68 = some (.aload_n 0, 1) := by decide +kernel
theorem c180_69 : mc_cd 180 69 = some (.getfield 166, 3) := by decide +kernel
theorem c180_72 : mc_cd 180 72 = some (.iload_n 1, 1) := by decide +kernel
theorem c180_73 : mc_cd 180 73 = some (.putfield 185, 3) := by decide +kernel
theorem c180_76 : mc_cd 180 76 = some (.return_, 1) := by decide +kernel
abbrev q_180 (r0 : Nat) (rp : Nat) (T : wq_T) (H : wq_H) : Option Value → wq_T → wq_H → Prop := fun r T' H' => T = T' ∧ WT T H' ∧ wfr [(54, 0), (54, 1), (54, 2), (42, 8), (42, 9), (42, 10), (42, 11), (42, 12), (42, 13), (42, 14), (42, 15)] T H H' ∧ none = r ∧ (wJ H' r0 = 1) ∧ (H r0 10 ≤ H' r0 10) ∧ (wOV H r0 ≤ wOV H' r0) ∧ (wOV H' r0 ≤ 1)
set_option maxHeartbeats 4000000 in
theorem s_180 {kt : Nat → Option mc_E} {T : wq_T} {H : wq_H} {r0 : Nat} {rp : Nat} (hW : WT T H) (g0 : T.2.2.2 r0 = some 42) (qrp : H r0 4 = (rp : Int)) (grp : T.2.2.2 rp = some 54) (p0 : wJ H r0 = 1) : wpc kt 5 180 [.ref r0] T H (q_180 r0 rp T H) := by
  refine wp_enter e180 (Nat.le_of_ble_eq_true rfl) rfl ?_
  have f0 : wfr [(54, 0), (54, 1), (54, 2), (42, 8), (42, 9), (42, 10), (42, 11), (42, 12), (42, 13), (42, 14), (42, 15)] T H H := wfr.rf
  show wp _ _ 180 0 [(0, .ref r0)] [] _ H _
  have b85754 : (-2147483648) ≤ H r0 10 ∧ H r0 10 ≤ 2147483647 := hW.box g0 (n := 33) rfl (by decide) rfl
  have b85755 : 0 ≤ H r0 9 ∧ H r0 9 ≤ 5 := hW.box g0 (n := 33) rfl (by decide) rfl
  have b85756 : 0 ≤ H r0 8 ∧ H r0 8 ≤ 900 := hW.box g0 (n := 33) rfl (by decide) rfl
  have hb0 := wOV_b (H := H) (m := r0)
  refine wp_of e180 c180_0 (rw_aload_n (pc' := 1) (v := .ref r0) rfl rfl rfl ?_)
  refine wp_of e180 c180_1 (xg_K (pc' := 4) lf_9_166 hW g0 sh_42 (by decide) (by decide) rfl qrp rfl ?_)
  refine wp_of e180 c180_4 (xg_I (pc' := 7) lf_9_185 hW grp sh_54 (by decide) (by decide) ty_54_0 rfl rfl (fun b85757 b85758 => ?_))
  refine wp_of e180 c180_7 (rw_if_le (p1 := 15) (p2 := 10) (by decide) rfl ⟨by omega, by omega⟩ (fun c85759 => ?_) (fun c85759 => ?_))
  · refine wp_of e180 c180_15 (rw_aload_n (pc' := 16) (v := .ref r0) rfl rfl rfl ?_)
    refine wp_of e180 c180_16 (xc_V (pc' := 19) (r := r0) (as := []) (st := []) (lm_9_118) rfl rfl (Nat.le_of_ble_eq_true rfl) hW g0 sh_42 (by decide) rfl (by decide) (s_172 hW g0 (by omega)) (fun R85760 T85761 H85762 p85763 => ?_))
    obtain ⟨e85764, w85766, f85767, e85765, p85768, p85769, p85770, p85771, p85772, p85773⟩ := p85763
    subst e85764
    subst e85765
    have f85774 := f0.tr f85767 rfl
    show wp _ _ 180 19 [(0, .ref r0)] [] _ H85762 _
    refine wp_of e180 c180_19 (rw_aload_n (pc' := 20) (v := .ref r0) rfl rfl rfl ?_)
    refine wp_of e180 c180_20 (rw_ldcS (pc' := 22) (k := 73) rfl rfl rfl rfl ?_)
    refine wp_of e180 c180_22 (rw_iconst (pc' := 23) rfl ?_)
    refine wp_of e180 c180_23 (rw_bipush (pc' := 25) (z := 24) rfl (by decide) ?_)
    refine wp_of e180 c180_25 (xc_V (pc' := 28) (r := r0) (as := [.ref 73, vI 1, vI 24]) (st := []) (lm_9_216) rfl rfl (Nat.le_of_ble_eq_true rfl) w85766 g0 sh_42 (by decide) rfl (by decide) (s_182 w85766 g0 rfl ⟨by omega, by omega⟩ ⟨by omega, by omega⟩ (by omega)) (fun R85775 T85776 H85777 p85778 => ?_))
    obtain ⟨e85779, w85781, f85782, z85788, e85780, b85789, p85783, p85784, p85785, p85786, p85787⟩ := p85778
    subst e85779
    subst e85780
    have f85790 := f85774.tr f85782 rfl
    show wp _ _ 180 28 [(0, .ref r0)] [vI z85788] _ H85777 _
    refine wp_of e180 c180_28 (rw_istore_n (pc' := 29) (z := z85788) (L' := [(1, vI z85788), (0, .ref r0)]) rfl rfl rfl ?_)
    refine wp_of e180 c180_29 (rw_aload_n (pc' := 30) (v := .ref r0) rfl rfl rfl ?_)
    have k85791 : H85777 r0 4 = H r0 4 := ((f85782 r0 4 _ g0 rfl).trans (f85767 r0 4 _ g0 rfl))
    have q85792 : H85777 r0 4 = (rp : Int) := k85791.trans qrp
    refine wp_of e180 c180_30 (xg_K (pc' := 33) lf_9_166 w85781 g0 sh_42 (by decide) (by decide) rfl q85792 rfl ?_)
    refine wp_of e180 c180_33 (rw_aload_n (pc' := 34) (v := .ref r0) rfl rfl rfl ?_)
    refine wp_of e180 c180_34 (rw_ldcS (pc' := 36) (k := 74) rfl rfl rfl rfl ?_)
    refine wp_of e180 c180_36 (rw_iconst (pc' := 37) rfl ?_)
    refine wp_of e180 c180_37 (rw_bipush (pc' := 39) (z := 9) rfl (by decide) ?_)
    refine wp_of e180 c180_39 (xc_V (pc' := 42) (r := r0) (as := [.ref 74, vI 0, vI 9]) (st := [.ref rp]) (lm_9_216) rfl rfl (Nat.le_of_ble_eq_true rfl) w85781 g0 sh_42 (by decide) rfl (by decide) (s_182 w85781 g0 rfl ⟨by omega, by omega⟩ ⟨by omega, by omega⟩ (by omega)) (fun R85793 T85794 H85795 p85796 => ?_))
    obtain ⟨e85797, w85799, f85800, z85806, e85798, b85807, p85801, p85802, p85803, p85804, p85805⟩ := p85796
    subst e85797
    subst e85798
    have f85808 := f85790.tr f85800 rfl
    show wp _ _ 180 42 [(1, vI z85788), (0, .ref r0)] [vI z85806, .ref rp] _ H85795 _
    refine wp_of e180 c180_42 (xp_I (pc' := 45) lf_9_222 w85799 grp sh_54 (by decide) (by decide) ty_54_1 rfl rfl (by omega) (by omega) ⟨by omega, by omega⟩ rfl (fun H85809 e85810 w85811 => ?_))
    have f85812 := f85808.put' e85810 grp rfl
    have k85813 : H85809 rp 1 = z85806 := wq_u_s e85810
    refine wp_of e180 c180_45 (rw_aload_n (pc' := 46) (v := .ref r0) rfl rfl rfl ?_)
    have k85814 : H85809 r0 4 = H85777 r0 4 := ((wq_u_t e85810 grp g0 rfl 4).trans (f85800 r0 4 _ g0 rfl))
    have q85815 : H85809 r0 4 = (rp : Int) := k85814.trans q85792
    refine wp_of e180 c180_46 (xg_K (pc' := 49) lf_9_166 w85811 g0 sh_42 (by decide) (by decide) rfl q85815 rfl ?_)
    refine wp_of e180 c180_49 (rw_aload_n (pc' := 50) (v := .ref r0) rfl rfl rfl ?_)
    refine wp_of e180 c180_50 (rw_ldcS (pc' := 52) (k := 75) rfl rfl rfl rfl ?_)
    refine wp_of e180 c180_52 (rw_iconst (pc' := 53) rfl ?_)
    refine wp_of e180 c180_53 (rw_iconst (pc' := 54) rfl ?_)
    have k85816 : wJ H85809 r0 = wJ H85795 r0 := (wJ_fr w85799 g0 ((wfr.rf (l := [(54, 1)])).put' e85810 grp rfl) rfl)
    have k85817 : wOV H85809 r0 = wOV H85795 r0 := (wOV_fr w85799 g0 ((wfr.rf (l := [(54, 1)])).put' e85810 grp rfl) rfl)
    have k85818 : H85809 r0 10 = H85795 r0 10 := (wq_u_t e85810 grp g0 rfl 10)
    refine wp_of e180 c180_54 (xc_V (pc' := 57) (r := r0) (as := [.ref 75, vI 0, vI 3]) (st := [.ref rp]) (lm_9_216) rfl rfl (Nat.le_of_ble_eq_true rfl) w85811 g0 sh_42 (by decide) rfl (by decide) (s_182 w85811 g0 rfl ⟨by omega, by omega⟩ ⟨by omega, by omega⟩ (by omega)) (fun R85819 T85820 H85821 p85822 => ?_))
    obtain ⟨e85823, w85825, f85826, z85832, e85824, b85833, p85827, p85828, p85829, p85830, p85831⟩ := p85822
    subst e85823
    subst e85824
    have f85834 := f85812.tr f85826 rfl
    show wp _ _ 180 57 [(1, vI z85788), (0, .ref r0)] [vI z85832, .ref rp] _ H85821 _
    refine wp_of e180 c180_57 (xp_I (pc' := 60) lf_9_226 w85825 grp sh_54 (by decide) (by decide) ty_54_2 rfl rfl (by omega) (by omega) ⟨by omega, by omega⟩ rfl (fun H85835 e85836 w85837 => ?_))
    have f85838 := f85834.put' e85836 grp rfl
    have k85839 : H85835 rp 2 = z85832 := wq_u_s e85836
    refine wp_of e180 c180_60 (rw_aload_n (pc' := 61) (v := .ref r0) rfl rfl rfl ?_)
    refine wp_of e180 c180_61 (xg_I (pc' := 64) lf_9_75 w85837 g0 sh_42 (by decide) (by decide) ty_42_9 rfl rfl (fun b85840 b85841 => ?_))
    have k85842 := wOV_e (H := H85835) (m := r0)
    refine wp_of e180 c180_64 (rw_iconst (pc' := 65) rfl ?_)
    refine wp_of e180 c180_65 (rw_icmp_eq (p1 := 76) (p2 := 68) (by decide) rfl ⟨by omega, by omega⟩ ⟨by omega, by omega⟩ (fun c85843 => ?_) (fun c85843 => ?_))
    · have k85844 : H85835 r0 10 = H85821 r0 10 := (wq_u_t e85836 grp g0 rfl 10)
      have k85845 : wOV H85835 r0 = wOV H85821 r0 := (wOV_fr w85825 g0 ((wfr.rf (l := [(54, 2)])).put' e85836 grp rfl) rfl)
      have k85846 : wJ H85835 r0 = wJ H85821 r0 := (wJ_fr w85825 g0 ((wfr.rf (l := [(54, 2)])).put' e85836 grp rfl) rfl)
      exact wp_return e180 c180_76 rfl ⟨rfl, w85837, f85838, rfl, by omega, by omega, by omega, by omega⟩
    · refine wp_of e180 c180_68 (rw_aload_n (pc' := 69) (v := .ref r0) rfl rfl rfl ?_)
      have k85847 : H85835 r0 4 = H85809 r0 4 := ((wq_u_t e85836 grp g0 rfl 4).trans (f85826 r0 4 _ g0 rfl))
      have q85848 : H85835 r0 4 = (rp : Int) := k85847.trans q85815
      refine wp_of e180 c180_69 (xg_K (pc' := 72) lf_9_166 w85837 g0 sh_42 (by decide) (by decide) rfl q85848 rfl ?_)
      refine wp_of e180 c180_72 (rw_iload_n (pc' := 73) (z := z85788) rfl rfl ?_)
      refine wp_of e180 c180_73 (xp_I (pc' := 76) lf_9_185 w85837 grp sh_54 (by decide) (by decide) ty_54_0 rfl rfl (by omega) (by omega) ⟨by omega, by omega⟩ rfl (fun H85849 e85850 w85851 => ?_))
      have f85852 := f85838.put' e85850 grp rfl
      have k85853 : H85849 rp 0 = z85788 := wq_u_s e85850
      have k85854 : H85849 r0 9 = H85835 r0 9 := (wq_u_t e85850 grp g0 rfl 9)
      have k85855 : H85849 r0 10 = H85821 r0 10 := ((wq_u_t e85850 grp g0 rfl 10).trans (wq_u_t e85836 grp g0 rfl 10))
      have k85856 : wOV H85849 r0 = wOV H85821 r0 := ((wOV_fr w85837 g0 ((wfr.rf (l := [(54, 0)])).put' e85850 grp rfl) rfl).trans (wOV_fr w85825 g0 ((wfr.rf (l := [(54, 2)])).put' e85836 grp rfl) rfl))
      have k85857 : wJ H85849 r0 = wJ H85821 r0 := ((wJ_fr w85837 g0 ((wfr.rf (l := [(54, 0)])).put' e85850 grp rfl) rfl).trans (wJ_fr w85825 g0 ((wfr.rf (l := [(54, 2)])).put' e85836 grp rfl) rfl))
      exact wp_return e180 c180_76 rfl ⟨rfl, w85851, f85852, rfl, by omega, by omega, by omega, by omega⟩
  · refine wp_of e180 c180_10 (rw_aload_n (pc' := 11) (v := .ref r0) rfl rfl rfl ?_)
    refine wp_of e180 c180_11 (rw_iconst (pc' := 12) rfl ?_)
    refine wp_of e180 c180_12 (xc_V (pc' := 15) (r := r0) (as := [vI 3]) (st := []) (lm_9_121) rfl rfl (Nat.le_of_ble_eq_true rfl) hW g0 sh_42 (by decide) rfl (by decide) (s_181 hW g0 ⟨by omega, by omega⟩ (by omega)) (fun R85858 T85859 H85860 p85861 => ?_))
    obtain ⟨e85862, w85864, f85865, e85863, p85866, p85867, p85868, p85869, p85870, p85871⟩ := p85861
    subst e85862
    subst e85863
    have f85872 := f0.tr f85865 rfl
    show wp _ _ 180 15 [(0, .ref r0)] [] _ H85860 _
    refine wp_of e180 c180_15 (rw_aload_n (pc' := 16) (v := .ref r0) rfl rfl rfl ?_)
    refine wp_of e180 c180_16 (xc_V (pc' := 19) (r := r0) (as := []) (st := []) (lm_9_118) rfl rfl (Nat.le_of_ble_eq_true rfl) w85864 g0 sh_42 (by decide) rfl (by decide) (s_172 w85864 g0 (by omega)) (fun R85873 T85874 H85875 p85876 => ?_))
    obtain ⟨e85877, w85879, f85880, e85878, p85881, p85882, p85883, p85884, p85885, p85886⟩ := p85876
    subst e85877
    subst e85878
    have f85887 := f85872.tr f85880 rfl
    show wp _ _ 180 19 [(0, .ref r0)] [] _ H85875 _
    refine wp_of e180 c180_19 (rw_aload_n (pc' := 20) (v := .ref r0) rfl rfl rfl ?_)
    refine wp_of e180 c180_20 (rw_ldcS (pc' := 22) (k := 73) rfl rfl rfl rfl ?_)
    refine wp_of e180 c180_22 (rw_iconst (pc' := 23) rfl ?_)
    refine wp_of e180 c180_23 (rw_bipush (pc' := 25) (z := 24) rfl (by decide) ?_)
    refine wp_of e180 c180_25 (xc_V (pc' := 28) (r := r0) (as := [.ref 73, vI 1, vI 24]) (st := []) (lm_9_216) rfl rfl (Nat.le_of_ble_eq_true rfl) w85879 g0 sh_42 (by decide) rfl (by decide) (s_182 w85879 g0 rfl ⟨by omega, by omega⟩ ⟨by omega, by omega⟩ (by omega)) (fun R85888 T85889 H85890 p85891 => ?_))
    obtain ⟨e85892, w85894, f85895, z85901, e85893, b85902, p85896, p85897, p85898, p85899, p85900⟩ := p85891
    subst e85892
    subst e85893
    have f85903 := f85887.tr f85895 rfl
    show wp _ _ 180 28 [(0, .ref r0)] [vI z85901] _ H85890 _
    refine wp_of e180 c180_28 (rw_istore_n (pc' := 29) (z := z85901) (L' := [(1, vI z85901), (0, .ref r0)]) rfl rfl rfl ?_)
    refine wp_of e180 c180_29 (rw_aload_n (pc' := 30) (v := .ref r0) rfl rfl rfl ?_)
    have k85904 : H85890 r0 4 = H r0 4 := ((f85895 r0 4 _ g0 rfl).trans ((f85880 r0 4 _ g0 rfl).trans (f85865 r0 4 _ g0 rfl)))
    have q85905 : H85890 r0 4 = (rp : Int) := k85904.trans qrp
    refine wp_of e180 c180_30 (xg_K (pc' := 33) lf_9_166 w85894 g0 sh_42 (by decide) (by decide) rfl q85905 rfl ?_)
    refine wp_of e180 c180_33 (rw_aload_n (pc' := 34) (v := .ref r0) rfl rfl rfl ?_)
    refine wp_of e180 c180_34 (rw_ldcS (pc' := 36) (k := 74) rfl rfl rfl rfl ?_)
    refine wp_of e180 c180_36 (rw_iconst (pc' := 37) rfl ?_)
    refine wp_of e180 c180_37 (rw_bipush (pc' := 39) (z := 9) rfl (by decide) ?_)
    refine wp_of e180 c180_39 (xc_V (pc' := 42) (r := r0) (as := [.ref 74, vI 0, vI 9]) (st := [.ref rp]) (lm_9_216) rfl rfl (Nat.le_of_ble_eq_true rfl) w85894 g0 sh_42 (by decide) rfl (by decide) (s_182 w85894 g0 rfl ⟨by omega, by omega⟩ ⟨by omega, by omega⟩ (by omega)) (fun R85906 T85907 H85908 p85909 => ?_))
    obtain ⟨e85910, w85912, f85913, z85919, e85911, b85920, p85914, p85915, p85916, p85917, p85918⟩ := p85909
    subst e85910
    subst e85911
    have f85921 := f85903.tr f85913 rfl
    show wp _ _ 180 42 [(1, vI z85901), (0, .ref r0)] [vI z85919, .ref rp] _ H85908 _
    refine wp_of e180 c180_42 (xp_I (pc' := 45) lf_9_222 w85912 grp sh_54 (by decide) (by decide) ty_54_1 rfl rfl (by omega) (by omega) ⟨by omega, by omega⟩ rfl (fun H85922 e85923 w85924 => ?_))
    have f85925 := f85921.put' e85923 grp rfl
    have k85926 : H85922 rp 1 = z85919 := wq_u_s e85923
    refine wp_of e180 c180_45 (rw_aload_n (pc' := 46) (v := .ref r0) rfl rfl rfl ?_)
    have k85927 : H85922 r0 4 = H85890 r0 4 := ((wq_u_t e85923 grp g0 rfl 4).trans (f85913 r0 4 _ g0 rfl))
    have q85928 : H85922 r0 4 = (rp : Int) := k85927.trans q85905
    refine wp_of e180 c180_46 (xg_K (pc' := 49) lf_9_166 w85924 g0 sh_42 (by decide) (by decide) rfl q85928 rfl ?_)
    refine wp_of e180 c180_49 (rw_aload_n (pc' := 50) (v := .ref r0) rfl rfl rfl ?_)
    refine wp_of e180 c180_50 (rw_ldcS (pc' := 52) (k := 75) rfl rfl rfl rfl ?_)
    refine wp_of e180 c180_52 (rw_iconst (pc' := 53) rfl ?_)
    refine wp_of e180 c180_53 (rw_iconst (pc' := 54) rfl ?_)
    have k85929 : wJ H85922 r0 = wJ H85908 r0 := (wJ_fr w85912 g0 ((wfr.rf (l := [(54, 1)])).put' e85923 grp rfl) rfl)
    have k85930 : wOV H85922 r0 = wOV H85908 r0 := (wOV_fr w85912 g0 ((wfr.rf (l := [(54, 1)])).put' e85923 grp rfl) rfl)
    have k85931 : H85922 r0 10 = H85908 r0 10 := (wq_u_t e85923 grp g0 rfl 10)
    refine wp_of e180 c180_54 (xc_V (pc' := 57) (r := r0) (as := [.ref 75, vI 0, vI 3]) (st := [.ref rp]) (lm_9_216) rfl rfl (Nat.le_of_ble_eq_true rfl) w85924 g0 sh_42 (by decide) rfl (by decide) (s_182 w85924 g0 rfl ⟨by omega, by omega⟩ ⟨by omega, by omega⟩ (by omega)) (fun R85932 T85933 H85934 p85935 => ?_))
    obtain ⟨e85936, w85938, f85939, z85945, e85937, b85946, p85940, p85941, p85942, p85943, p85944⟩ := p85935
    subst e85936
    subst e85937
    have f85947 := f85925.tr f85939 rfl
    show wp _ _ 180 57 [(1, vI z85901), (0, .ref r0)] [vI z85945, .ref rp] _ H85934 _
    refine wp_of e180 c180_57 (xp_I (pc' := 60) lf_9_226 w85938 grp sh_54 (by decide) (by decide) ty_54_2 rfl rfl (by omega) (by omega) ⟨by omega, by omega⟩ rfl (fun H85948 e85949 w85950 => ?_))
    have f85951 := f85947.put' e85949 grp rfl
    have k85952 : H85948 rp 2 = z85945 := wq_u_s e85949
    refine wp_of e180 c180_60 (rw_aload_n (pc' := 61) (v := .ref r0) rfl rfl rfl ?_)
    refine wp_of e180 c180_61 (xg_I (pc' := 64) lf_9_75 w85950 g0 sh_42 (by decide) (by decide) ty_42_9 rfl rfl (fun b85953 b85954 => ?_))
    have k85955 := wOV_e (H := H85948) (m := r0)
    refine wp_of e180 c180_64 (rw_iconst (pc' := 65) rfl ?_)
    refine wp_of e180 c180_65 (rw_icmp_eq (p1 := 76) (p2 := 68) (by decide) rfl ⟨by omega, by omega⟩ ⟨by omega, by omega⟩ (fun c85956 => ?_) (fun c85956 => ?_))
    · have k85957 : H85948 r0 10 = H85934 r0 10 := (wq_u_t e85949 grp g0 rfl 10)
      have k85958 : wOV H85948 r0 = wOV H85934 r0 := (wOV_fr w85938 g0 ((wfr.rf (l := [(54, 2)])).put' e85949 grp rfl) rfl)
      have k85959 : wJ H85948 r0 = wJ H85934 r0 := (wJ_fr w85938 g0 ((wfr.rf (l := [(54, 2)])).put' e85949 grp rfl) rfl)
      exact wp_return e180 c180_76 rfl ⟨rfl, w85950, f85951, rfl, by omega, by omega, by omega, by omega⟩
    · refine wp_of e180 c180_68 (rw_aload_n (pc' := 69) (v := .ref r0) rfl rfl rfl ?_)
      have k85960 : H85948 r0 4 = H85922 r0 4 := ((wq_u_t e85949 grp g0 rfl 4).trans (f85939 r0 4 _ g0 rfl))
      have q85961 : H85948 r0 4 = (rp : Int) := k85960.trans q85928
      refine wp_of e180 c180_69 (xg_K (pc' := 72) lf_9_166 w85950 g0 sh_42 (by decide) (by decide) rfl q85961 rfl ?_)
      refine wp_of e180 c180_72 (rw_iload_n (pc' := 73) (z := z85901) rfl rfl ?_)
      refine wp_of e180 c180_73 (xp_I (pc' := 76) lf_9_185 w85950 grp sh_54 (by decide) (by decide) ty_54_0 rfl rfl (by omega) (by omega) ⟨by omega, by omega⟩ rfl (fun H85962 e85963 w85964 => ?_))
      have f85965 := f85951.put' e85963 grp rfl
      have k85966 : H85962 rp 0 = z85901 := wq_u_s e85963
      have k85967 : H85962 r0 9 = H85948 r0 9 := (wq_u_t e85963 grp g0 rfl 9)
      have k85968 : H85962 r0 10 = H85934 r0 10 := ((wq_u_t e85963 grp g0 rfl 10).trans (wq_u_t e85949 grp g0 rfl 10))
      have k85969 : wOV H85962 r0 = wOV H85934 r0 := ((wOV_fr w85950 g0 ((wfr.rf (l := [(54, 0)])).put' e85963 grp rfl) rfl).trans (wOV_fr w85938 g0 ((wfr.rf (l := [(54, 2)])).put' e85949 grp rfl) rfl))
      have k85970 : wJ H85962 r0 = wJ H85934 r0 := ((wJ_fr w85950 g0 ((wfr.rf (l := [(54, 0)])).put' e85963 grp rfl) rfl).trans (wJ_fr w85938 g0 ((wfr.rf (l := [(54, 2)])).put' e85949 grp rfl) rfl))
      exact wp_return e180 c180_76 rfl ⟨rfl, w85964, f85965, rfl, by omega, by omega, by omega, by omega⟩
/-! StrikeAwakeModel.begins(II)V -/
theorem e188 : wq_en 188 = some (9, 3, false, none) := rfl
theorem c188_0 : mc_cd 188 0 = some (.iload_n 1, 1) := by decide +kernel
theorem c188_1 : mc_cd 188 1 = some (.iload_n 2, 1) := by decide +kernel
theorem c188_2 : mc_cd 188 2 = some (.if_icmp .ne 8, 3) := by decide +kernel
theorem c188_5 : mc_cd 188 5 = some (.aload_n 0, 1) := by decide +kernel
theorem c188_6 : mc_cd 188 6 = some (.iconst 5, 1) := by decide +kernel
theorem c188_7 : mc_cd 188 7 = some (.invokevirtual 121, 3) := by decide +kernel
theorem c188_10 : mc_cd 188 10 = some (.aload_n 0, 1) := by decide +kernel
theorem c188_11 : mc_cd 188 11 = some (.invokevirtual 118, 3) := by decide +kernel
theorem c188_14 : mc_cd 188 14 = some (.return_, 1) := by decide +kernel
abbrev q_188 (r0 : Nat) (a1 : Int) (a2 : Int) (T : wq_T) (H : wq_H) : Option Value → wq_T → wq_H → Prop := fun r T' H' => T = T' ∧ WT T H' ∧ wfr [(42, 8), (42, 9), (42, 10), (42, 11), (42, 12), (42, 13), (42, 14), (42, 15)] T H H' ∧ none = r ∧ (wJ H' r0 = 1) ∧ (H r0 10 ≤ H' r0 10) ∧ (wOV H r0 ≤ wOV H' r0) ∧ (wOV H' r0 ≤ 1) ∧ (wOV H' r0 = 1 ∨ a1 ≠ a2)
set_option maxHeartbeats 4000000 in
theorem s_188 {kt : Nat → Option mc_E} {T : wq_T} {H : wq_H} {r0 : Nat} {a1 : Int} {a2 : Int} (hW : WT T H) (g0 : T.2.2.2 r0 = some 42) (i1 : (-2147483648) ≤ a1 ∧ a1 ≤ 2147483647) (i2 : (-2147483648) ≤ a2 ∧ a2 ≤ 2147483647) (p0 : wJ H r0 = 1) : wpc kt 3 188 [.ref r0, vI a1, vI a2] T H (q_188 r0 a1 a2 T H) := by
  refine wp_enter e188 (Nat.le_of_ble_eq_true rfl) rfl ?_
  have f0 : wfr [(42, 8), (42, 9), (42, 10), (42, 11), (42, 12), (42, 13), (42, 14), (42, 15)] T H H := wfr.rf
  show wp _ _ 188 0 [(0, .ref r0), (1, vI a1), (2, vI a2)] [] _ H _
  have b86017 : (-2147483648) ≤ H r0 10 ∧ H r0 10 ≤ 2147483647 := hW.box g0 (n := 33) rfl (by decide) rfl
  have b86018 : 0 ≤ H r0 9 ∧ H r0 9 ≤ 5 := hW.box g0 (n := 33) rfl (by decide) rfl
  have b86019 : 0 ≤ H r0 8 ∧ H r0 8 ≤ 900 := hW.box g0 (n := 33) rfl (by decide) rfl
  have hb0 := wOV_b (H := H) (m := r0)
  refine wp_of e188 c188_0 (rw_iload_n (pc' := 1) (z := a1) rfl rfl ?_)
  refine wp_of e188 c188_1 (rw_iload_n (pc' := 2) (z := a2) rfl rfl ?_)
  refine wp_of e188 c188_2 (rw_icmp_ne (p1 := 10) (p2 := 5) (by decide) rfl ⟨by omega, by omega⟩ ⟨by omega, by omega⟩ (fun c86020 => ?_) (fun c86020 => ?_))
  · refine wp_of e188 c188_10 (rw_aload_n (pc' := 11) (v := .ref r0) rfl rfl rfl ?_)
    refine wp_of e188 c188_11 (xc_V (pc' := 14) (r := r0) (as := []) (st := []) (lm_9_118) rfl rfl (Nat.le_of_ble_eq_true rfl) hW g0 sh_42 (by decide) rfl (by decide) (s_172 hW g0 (by omega)) (fun R86021 T86022 H86023 p86024 => ?_))
    obtain ⟨e86025, w86027, f86028, e86026, p86029, p86030, p86031, p86032, p86033, p86034⟩ := p86024
    subst e86025
    subst e86026
    have f86035 := f0.tr f86028 rfl
    show wp _ _ 188 14 [(0, .ref r0), (1, vI a1), (2, vI a2)] [] _ H86023 _
    exact wp_return e188 c188_14 rfl ⟨rfl, w86027, f86035, rfl, by omega, by omega, by omega, by omega, by omega⟩
  · refine wp_of e188 c188_5 (rw_aload_n (pc' := 6) (v := .ref r0) rfl rfl rfl ?_)
    refine wp_of e188 c188_6 (rw_iconst (pc' := 7) rfl ?_)
    refine wp_of e188 c188_7 (xc_V (pc' := 10) (r := r0) (as := [vI 5]) (st := []) (lm_9_121) rfl rfl (Nat.le_of_ble_eq_true rfl) hW g0 sh_42 (by decide) rfl (by decide) (s_181 hW g0 ⟨by omega, by omega⟩ (by omega)) (fun R86036 T86037 H86038 p86039 => ?_))
    obtain ⟨e86040, w86042, f86043, e86041, p86044, p86045, p86046, p86047, p86048, p86049⟩ := p86039
    subst e86040
    subst e86041
    have f86050 := f0.tr f86043 rfl
    show wp _ _ 188 10 [(0, .ref r0), (1, vI a1), (2, vI a2)] [] _ H86038 _
    refine wp_of e188 c188_10 (rw_aload_n (pc' := 11) (v := .ref r0) rfl rfl rfl ?_)
    refine wp_of e188 c188_11 (xc_V (pc' := 14) (r := r0) (as := []) (st := []) (lm_9_118) rfl rfl (Nat.le_of_ble_eq_true rfl) w86042 g0 sh_42 (by decide) rfl (by decide) (s_172 w86042 g0 (by omega)) (fun R86051 T86052 H86053 p86054 => ?_))
    obtain ⟨e86055, w86057, f86058, e86056, p86059, p86060, p86061, p86062, p86063, p86064⟩ := p86054
    subst e86055
    subst e86056
    have f86065 := f86050.tr f86058 rfl
    show wp _ _ 188 14 [(0, .ref r0), (1, vI a1), (2, vI a2)] [] _ H86053 _
    exact wp_return e188 c188_14 rfl ⟨rfl, w86057, f86065, rfl, by omega, by omega, by omega, by omega, by omega⟩
/-! StrikeAwakeModel.isName()Z -/
theorem e189 : wq_en 189 = some (9, 1, false, some FieldType.boolean) := rfl
theorem c189_0 : mc_cd 189 0 = some (.aload_n 0, 1) := by decide +kernel
theorem c189_1 : mc_cd 189 1 = some (.getfield 75, 3) := by decide +kernel
theorem c189_4 : mc_cd 189 4 = some (.iconst 2, 1) := by decide +kernel
theorem c189_5 : mc_cd 189 5 = some (.if_icmp .ne 57, 3) := by decide +kernel
theorem c189_8 : mc_cd 189 8 = some (.aload_n 0, 1) := by decide +kernel
theorem c189_9 : mc_cd 189 9 = some (.ldc 140, 2) := by decide +kernel
theorem c189_11 : mc_cd 189 11 = some (.invokevirtual 114, 3) := by decide +kernel
theorem c189_14 : mc_cd 189 14 = some (.ifCond .ne 48, 3) := by decide +kernel
theorem c189_17 : mc_cd 189 17 = some (.aload_n 0, 1) := by decide +kernel
theorem c189_18 : mc_cd 189 18 = some (.ldc 142, 2) := by decide +kernel
theorem c189_20 : mc_cd 189 20 = some (.invokevirtual 114, 3) := by decide +kernel
theorem c189_23 : mc_cd 189 23 = some (.ifCond .ne 39, 3) := by decide +kernel
theorem c189_26 : mc_cd 189 26 = some (.aload_n 0, 1) := by decide +kernel
theorem c189_27 : mc_cd 189 27 = some (.ldc 144, 2) := by decide +kernel
theorem c189_29 : mc_cd 189 29 = some (.invokevirtual 114, 3) := by decide +kernel
theorem c189_32 : mc_cd 189 32 = some (.ifCond .ne 30, 3) := by decide +kernel
theorem c189_35 : mc_cd 189 35 = some (.aload_n 0, 1) := by decide +kernel
theorem c189_36 : mc_cd 189 36 = some (.ldc 146, 2) := by decide +kernel
theorem c189_38 : mc_cd 189 38 = some (.invokevirtual 114, 3) := by decide +kernel
theorem c189_41 : mc_cd 189 41 = some (.ifCond .ne 21, 3) := by decide +kernel
theorem c189_44 : mc_cd 189 44 = some (.aload_n 0, 1) := by decide +kernel
theorem c189_45 : mc_cd 189 45 = some (.ldc 148, 2) := by decide +kernel
theorem c189_47 : mc_cd 189 47 = some (.invokevirtual 114, 3) := by decide +kernel
theorem c189_50 : mc_cd 189 50 = some (.ifCond .ne 12, 3) := by decide +kernel
theorem c189_53 : mc_cd 189 53 = some (.aload_n 0, 1) := by decide +kernel
theorem c189_54 : mc_cd 189 54 = some (.ldc 150, 2) := by decide +kernel
theorem c189_56 : mc_cd 189 56 = some (.invokevirtual 114, 3) := by decide +kernel
theorem c189_59 : mc_cd 189 59 = some (.ifCond .eq 5, 3) := by decide +kernel
theorem c189_62 : mc_cd 189 62 = some (.iconst 0, 1) := by decide +kernel
theorem c189_63 : mc_cd 189 63 = some (.ireturn, 1) := by decide +kernel
theorem c189_64 : mc_cd 189 64 = some (.aload_n 0, 1) := by decide +kernel
theorem c189_65 : mc_cd 189 65 = some (.ldc 152, 2) := by decide +kernel
theorem c189_67 : mc_cd 189 67 = some (.invokevirtual 114, 3) := by decide +kernel
theorem c189_70 : mc_cd 189 70 = some (.ifCond .ne 43, 3) := by decide +kernel
theorem c189_73 : mc_cd 189 73 = some (.aload_n 0, 1) := by decide +kernel
theorem c189_74 : mc_cd 189 74 = some (.ldc 154, 2) := by decide +kernel
theorem c189_76 : mc_cd 189 76 = some (.invokevirtual 114, 3) := by decide +kernel
theorem c189_79 : mc_cd 189 79 = some (.ifCond .ne 34, 3) := by decide +kernel
theorem c189_82 : mc_cd 189 82 = some (.aload_n 0, 1) := by decide +kernel
theorem c189_83 : mc_cd 189 83 = some (.ldc 156, 2) := by decide +kernel
theorem c189_85 : mc_cd 189 85 = some (.invokevirtual 114, 3) := by decide +kernel
theorem c189_88 : mc_cd 189 88 = some (.ifCond .ne 25, 3) := by decide +kernel
theorem c189_91 : mc_cd 189 91 = some (.aload_n 0, 1) := by decide +kernel
theorem c189_92 : mc_cd 189 92 = some (.ldc 158, 2) := by decide +kernel
theorem c189_94 : mc_cd 189 94 = some (.invokevirtual 114, 3) := by decide +kernel
theorem c189_97 : mc_cd 189 97 = some (.ifCond .ne 16, 3) := by decide +kernel
theorem c189_100 : mc_cd 189 100 = some (.aload_n 0, 1) := by decide +kernel
theorem c189_101 : mc_cd 189 101 = some (.ldc 160, 2) := by decide +kernel
theorem c189_103 : mc_cd 189 103 = some (.invokevirtual 114, 3) := by decide +kernel
theorem c189_106 : mc_cd 189 106 = some (.ifCond .ne 7, 3) := by decide +kernel
theorem c189_109 : mc_cd 189 109 = some (.iconst 1, 1) := by decide +kernel
theorem c189_110 : mc_cd 189 110 = some (.goto 4, 3) := by decide +kernel
theorem c189_113 : mc_cd 189 113 = some (.iconst 0, 1) := by decide +kernel
theorem c189_114 : mc_cd 189 114 = some (.ireturn, 1) := by decide +kernel
abbrev q_189 (r0 : Nat) (T : wq_T) (H : wq_H) : Option Value → wq_T → wq_H → Prop := fun r T' H' => T = T' ∧ H = H' ∧ ∃ z : Int, some (vI z) = r ∧ (0 ≤ z ∧ z ≤ 1)
set_option maxHeartbeats 4000000 in
theorem s_189 {kt : Nat → Option mc_E} {T : wq_T} {H : wq_H} {r0 : Nat} (hW : WT T H) (g0 : T.2.2.2 r0 = some 42) : wpc kt 3 189 [.ref r0] T H (q_189 r0 T H) := by
  refine wp_enter e189 (Nat.le_of_ble_eq_true rfl) rfl ?_
  show wp _ _ 189 0 [(0, .ref r0)] [] _ H _
  refine wp_of e189 c189_0 (rw_aload_n (pc' := 1) (v := .ref r0) rfl rfl rfl ?_)
  refine wp_of e189 c189_1 (xg_I (pc' := 4) lf_9_75 hW g0 sh_42 (by decide) (by decide) ty_42_9 rfl rfl (fun b86179 b86180 => ?_))
  refine wp_of e189 c189_4 (rw_iconst (pc' := 5) rfl ?_)
  refine wp_of e189 c189_5 (rw_icmp_ne (p1 := 62) (p2 := 8) (by decide) rfl ⟨by omega, by omega⟩ ⟨by omega, by omega⟩ (fun c86181 => ?_) (fun c86181 => ?_))
  · refine wp_of e189 c189_62 (rw_iconst (pc' := 63) rfl ?_)
    exact wp_zreturn e189 c189_63 rfl (by omega) ⟨rfl, rfl, 0, rfl, ⟨by omega, by omega⟩⟩
  · refine wp_of e189 c189_8 (rw_aload_n (pc' := 9) (v := .ref r0) rfl rfl rfl ?_)
    refine wp_of e189 c189_9 (rw_ldcS (pc' := 11) (k := 72) rfl rfl rfl rfl ?_)
    refine wp_of e189 c189_11 (xc_V (pc' := 14) (r := r0) (as := [.ref 72]) (st := []) (lm_9_114) rfl rfl (Nat.le_of_ble_eq_true rfl) hW g0 sh_42 (by decide) rfl (by decide) (s_178 hW g0 rfl) (fun R86182 T86183 H86184 p86185 => ?_))
    obtain ⟨e86186, e86188, z86189, e86187, b86190⟩ := p86185
    subst e86186
    subst e86187
    subst e86188
    show wp _ _ 189 14 [(0, .ref r0)] [vI z86189] _ H _
    refine wp_of e189 c189_14 (rw_if_ne (p1 := 62) (p2 := 17) (by decide) rfl ⟨by omega, by omega⟩ (fun c86191 => ?_) (fun c86191 => ?_))
    · refine wp_of e189 c189_62 (rw_iconst (pc' := 63) rfl ?_)
      exact wp_zreturn e189 c189_63 rfl (by omega) ⟨rfl, rfl, 0, rfl, ⟨by omega, by omega⟩⟩
    · refine wp_of e189 c189_17 (rw_aload_n (pc' := 18) (v := .ref r0) rfl rfl rfl ?_)
      refine wp_of e189 c189_18 (rw_ldcS (pc' := 20) (k := 76) rfl rfl rfl rfl ?_)
      refine wp_of e189 c189_20 (xc_V (pc' := 23) (r := r0) (as := [.ref 76]) (st := []) (lm_9_114) rfl rfl (Nat.le_of_ble_eq_true rfl) hW g0 sh_42 (by decide) rfl (by decide) (s_178 hW g0 rfl) (fun R86192 T86193 H86194 p86195 => ?_))
      obtain ⟨e86196, e86198, z86199, e86197, b86200⟩ := p86195
      subst e86196
      subst e86197
      subst e86198
      show wp _ _ 189 23 [(0, .ref r0)] [vI z86199] _ H _
      refine wp_of e189 c189_23 (rw_if_ne (p1 := 62) (p2 := 26) (by decide) rfl ⟨by omega, by omega⟩ (fun c86201 => ?_) (fun c86201 => ?_))
      · refine wp_of e189 c189_62 (rw_iconst (pc' := 63) rfl ?_)
        exact wp_zreturn e189 c189_63 rfl (by omega) ⟨rfl, rfl, 0, rfl, ⟨by omega, by omega⟩⟩
      · refine wp_of e189 c189_26 (rw_aload_n (pc' := 27) (v := .ref r0) rfl rfl rfl ?_)
        refine wp_of e189 c189_27 (rw_ldcS (pc' := 29) (k := 77) rfl rfl rfl rfl ?_)
        refine wp_of e189 c189_29 (xc_V (pc' := 32) (r := r0) (as := [.ref 77]) (st := []) (lm_9_114) rfl rfl (Nat.le_of_ble_eq_true rfl) hW g0 sh_42 (by decide) rfl (by decide) (s_178 hW g0 rfl) (fun R86202 T86203 H86204 p86205 => ?_))
        obtain ⟨e86206, e86208, z86209, e86207, b86210⟩ := p86205
        subst e86206
        subst e86207
        subst e86208
        show wp _ _ 189 32 [(0, .ref r0)] [vI z86209] _ H _
        refine wp_of e189 c189_32 (rw_if_ne (p1 := 62) (p2 := 35) (by decide) rfl ⟨by omega, by omega⟩ (fun c86211 => ?_) (fun c86211 => ?_))
        · refine wp_of e189 c189_62 (rw_iconst (pc' := 63) rfl ?_)
          exact wp_zreturn e189 c189_63 rfl (by omega) ⟨rfl, rfl, 0, rfl, ⟨by omega, by omega⟩⟩
        · refine wp_of e189 c189_35 (rw_aload_n (pc' := 36) (v := .ref r0) rfl rfl rfl ?_)
          refine wp_of e189 c189_36 (rw_ldcS (pc' := 38) (k := 78) rfl rfl rfl rfl ?_)
          refine wp_of e189 c189_38 (xc_V (pc' := 41) (r := r0) (as := [.ref 78]) (st := []) (lm_9_114) rfl rfl (Nat.le_of_ble_eq_true rfl) hW g0 sh_42 (by decide) rfl (by decide) (s_178 hW g0 rfl) (fun R86212 T86213 H86214 p86215 => ?_))
          obtain ⟨e86216, e86218, z86219, e86217, b86220⟩ := p86215
          subst e86216
          subst e86217
          subst e86218
          show wp _ _ 189 41 [(0, .ref r0)] [vI z86219] _ H _
          refine wp_of e189 c189_41 (rw_if_ne (p1 := 62) (p2 := 44) (by decide) rfl ⟨by omega, by omega⟩ (fun c86221 => ?_) (fun c86221 => ?_))
          · refine wp_of e189 c189_62 (rw_iconst (pc' := 63) rfl ?_)
            exact wp_zreturn e189 c189_63 rfl (by omega) ⟨rfl, rfl, 0, rfl, ⟨by omega, by omega⟩⟩
          · refine wp_of e189 c189_44 (rw_aload_n (pc' := 45) (v := .ref r0) rfl rfl rfl ?_)
            refine wp_of e189 c189_45 (rw_ldcS (pc' := 47) (k := 79) rfl rfl rfl rfl ?_)
            refine wp_of e189 c189_47 (xc_V (pc' := 50) (r := r0) (as := [.ref 79]) (st := []) (lm_9_114) rfl rfl (Nat.le_of_ble_eq_true rfl) hW g0 sh_42 (by decide) rfl (by decide) (s_178 hW g0 rfl) (fun R86222 T86223 H86224 p86225 => ?_))
            obtain ⟨e86226, e86228, z86229, e86227, b86230⟩ := p86225
            subst e86226
            subst e86227
            subst e86228
            show wp _ _ 189 50 [(0, .ref r0)] [vI z86229] _ H _
            refine wp_of e189 c189_50 (rw_if_ne (p1 := 62) (p2 := 53) (by decide) rfl ⟨by omega, by omega⟩ (fun c86231 => ?_) (fun c86231 => ?_))
            · refine wp_of e189 c189_62 (rw_iconst (pc' := 63) rfl ?_)
              exact wp_zreturn e189 c189_63 rfl (by omega) ⟨rfl, rfl, 0, rfl, ⟨by omega, by omega⟩⟩
            · refine wp_of e189 c189_53 (rw_aload_n (pc' := 54) (v := .ref r0) rfl rfl rfl ?_)
              refine wp_of e189 c189_54 (rw_ldcS (pc' := 56) (k := 80) rfl rfl rfl rfl ?_)
              refine wp_of e189 c189_56 (xc_V (pc' := 59) (r := r0) (as := [.ref 80]) (st := []) (lm_9_114) rfl rfl (Nat.le_of_ble_eq_true rfl) hW g0 sh_42 (by decide) rfl (by decide) (s_178 hW g0 rfl) (fun R86232 T86233 H86234 p86235 => ?_))
              obtain ⟨e86236, e86238, z86239, e86237, b86240⟩ := p86235
              subst e86236
              subst e86237
              subst e86238
              show wp _ _ 189 59 [(0, .ref r0)] [vI z86239] _ H _
              refine wp_of e189 c189_59 (rw_if_eq (p1 := 64) (p2 := 62) (by decide) rfl ⟨by omega, by omega⟩ (fun c86241 => ?_) (fun c86241 => ?_))
              · refine wp_of e189 c189_64 (rw_aload_n (pc' := 65) (v := .ref r0) rfl rfl rfl ?_)
                refine wp_of e189 c189_65 (rw_ldcS (pc' := 67) (k := 81) rfl rfl rfl rfl ?_)
                refine wp_of e189 c189_67 (xc_V (pc' := 70) (r := r0) (as := [.ref 81]) (st := []) (lm_9_114) rfl rfl (Nat.le_of_ble_eq_true rfl) hW g0 sh_42 (by decide) rfl (by decide) (s_178 hW g0 rfl) (fun R86242 T86243 H86244 p86245 => ?_))
                obtain ⟨e86246, e86248, z86249, e86247, b86250⟩ := p86245
                subst e86246
                subst e86247
                subst e86248
                show wp _ _ 189 70 [(0, .ref r0)] [vI z86249] _ H _
                refine wp_of e189 c189_70 (rw_if_ne (p1 := 113) (p2 := 73) (by decide) rfl ⟨by omega, by omega⟩ (fun c86251 => ?_) (fun c86251 => ?_))
                · refine wp_of e189 c189_113 (rw_iconst (pc' := 114) rfl ?_)
                  exact wp_zreturn e189 c189_114 rfl (by omega) ⟨rfl, rfl, 0, rfl, ⟨by omega, by omega⟩⟩
                · refine wp_of e189 c189_73 (rw_aload_n (pc' := 74) (v := .ref r0) rfl rfl rfl ?_)
                  refine wp_of e189 c189_74 (rw_ldcS (pc' := 76) (k := 82) rfl rfl rfl rfl ?_)
                  refine wp_of e189 c189_76 (xc_V (pc' := 79) (r := r0) (as := [.ref 82]) (st := []) (lm_9_114) rfl rfl (Nat.le_of_ble_eq_true rfl) hW g0 sh_42 (by decide) rfl (by decide) (s_178 hW g0 rfl) (fun R86252 T86253 H86254 p86255 => ?_))
                  obtain ⟨e86256, e86258, z86259, e86257, b86260⟩ := p86255
                  subst e86256
                  subst e86257
                  subst e86258
                  show wp _ _ 189 79 [(0, .ref r0)] [vI z86259] _ H _
                  refine wp_of e189 c189_79 (rw_if_ne (p1 := 113) (p2 := 82) (by decide) rfl ⟨by omega, by omega⟩ (fun c86261 => ?_) (fun c86261 => ?_))
                  · refine wp_of e189 c189_113 (rw_iconst (pc' := 114) rfl ?_)
                    exact wp_zreturn e189 c189_114 rfl (by omega) ⟨rfl, rfl, 0, rfl, ⟨by omega, by omega⟩⟩
                  · refine wp_of e189 c189_82 (rw_aload_n (pc' := 83) (v := .ref r0) rfl rfl rfl ?_)
                    refine wp_of e189 c189_83 (rw_ldcS (pc' := 85) (k := 83) rfl rfl rfl rfl ?_)
                    refine wp_of e189 c189_85 (xc_V (pc' := 88) (r := r0) (as := [.ref 83]) (st := []) (lm_9_114) rfl rfl (Nat.le_of_ble_eq_true rfl) hW g0 sh_42 (by decide) rfl (by decide) (s_178 hW g0 rfl) (fun R86262 T86263 H86264 p86265 => ?_))
                    obtain ⟨e86266, e86268, z86269, e86267, b86270⟩ := p86265
                    subst e86266
                    subst e86267
                    subst e86268
                    show wp _ _ 189 88 [(0, .ref r0)] [vI z86269] _ H _
                    refine wp_of e189 c189_88 (rw_if_ne (p1 := 113) (p2 := 91) (by decide) rfl ⟨by omega, by omega⟩ (fun c86271 => ?_) (fun c86271 => ?_))
                    · refine wp_of e189 c189_113 (rw_iconst (pc' := 114) rfl ?_)
                      exact wp_zreturn e189 c189_114 rfl (by omega) ⟨rfl, rfl, 0, rfl, ⟨by omega, by omega⟩⟩
                    · refine wp_of e189 c189_91 (rw_aload_n (pc' := 92) (v := .ref r0) rfl rfl rfl ?_)
                      refine wp_of e189 c189_92 (rw_ldcS (pc' := 94) (k := 84) rfl rfl rfl rfl ?_)
                      refine wp_of e189 c189_94 (xc_V (pc' := 97) (r := r0) (as := [.ref 84]) (st := []) (lm_9_114) rfl rfl (Nat.le_of_ble_eq_true rfl) hW g0 sh_42 (by decide) rfl (by decide) (s_178 hW g0 rfl) (fun R86272 T86273 H86274 p86275 => ?_))
                      obtain ⟨e86276, e86278, z86279, e86277, b86280⟩ := p86275
                      subst e86276
                      subst e86277
                      subst e86278
                      show wp _ _ 189 97 [(0, .ref r0)] [vI z86279] _ H _
                      refine wp_of e189 c189_97 (rw_if_ne (p1 := 113) (p2 := 100) (by decide) rfl ⟨by omega, by omega⟩ (fun c86281 => ?_) (fun c86281 => ?_))
                      · refine wp_of e189 c189_113 (rw_iconst (pc' := 114) rfl ?_)
                        exact wp_zreturn e189 c189_114 rfl (by omega) ⟨rfl, rfl, 0, rfl, ⟨by omega, by omega⟩⟩
                      · refine wp_of e189 c189_100 (rw_aload_n (pc' := 101) (v := .ref r0) rfl rfl rfl ?_)
                        refine wp_of e189 c189_101 (rw_ldcS (pc' := 103) (k := 85) rfl rfl rfl rfl ?_)
                        refine wp_of e189 c189_103 (xc_V (pc' := 106) (r := r0) (as := [.ref 85]) (st := []) (lm_9_114) rfl rfl (Nat.le_of_ble_eq_true rfl) hW g0 sh_42 (by decide) rfl (by decide) (s_178 hW g0 rfl) (fun R86282 T86283 H86284 p86285 => ?_))
                        obtain ⟨e86286, e86288, z86289, e86287, b86290⟩ := p86285
                        subst e86286
                        subst e86287
                        subst e86288
                        show wp _ _ 189 106 [(0, .ref r0)] [vI z86289] _ H _
                        refine wp_of e189 c189_106 (rw_if_ne (p1 := 113) (p2 := 109) (by decide) rfl ⟨by omega, by omega⟩ (fun c86291 => ?_) (fun c86291 => ?_))
                        · refine wp_of e189 c189_113 (rw_iconst (pc' := 114) rfl ?_)
                          exact wp_zreturn e189 c189_114 rfl (by omega) ⟨rfl, rfl, 0, rfl, ⟨by omega, by omega⟩⟩
                        · refine wp_of e189 c189_109 (rw_iconst (pc' := 110) rfl ?_)
                          refine wp_of e189 c189_110 (rw_goto (p1 := 114) (by decide) ?_)
                          exact wp_zreturn e189 c189_114 rfl (by omega) ⟨rfl, rfl, 1, rfl, ⟨by omega, by omega⟩⟩
              · refine wp_of e189 c189_62 (rw_iconst (pc' := 63) rfl ?_)
                exact wp_zreturn e189 c189_63 rfl (by omega) ⟨rfl, rfl, 0, rfl, ⟨by omega, by omega⟩⟩
/-! StrikeAwakeModel$Parish.find(J)I -/
theorem e190 : wq_en 190 = some (10, 4, false, some FieldType.int) := rfl
theorem c190_0 : mc_cd 190 0 = some (.iconst 0, 1) := by decide +kernel
theorem c190_1 : mc_cd 190 1 = some (.istore_n 3, 1) := by decide +kernel
theorem c190_2 : mc_cd 190 2 = some (.iload_n 3, 1) := by decide +kernel
theorem c190_3 : mc_cd 190 3 = some (.aload_n 0, 1) := by decide +kernel
theorem c190_4 : mc_cd 190 4 = some (.getfield 72, 3) := by decide +kernel
theorem c190_7 : mc_cd 190 7 = some (.if_icmp .ge 22, 3) := by decide +kernel
theorem c190_10 : mc_cd 190 10 = some (.aload_n 0, 1) := by decide +kernel
theorem c190_11 : mc_cd 190 11 = some (.getfield 15, 3) := by decide +kernel
theorem c190_14 : mc_cd 190 14 = some (.iload_n 3, 1) := by decide +kernel
theorem c190_15 : mc_cd 190 15 = some (.laload, 1) := by decide +kernel
theorem c190_16 : mc_cd 190 16 = some (.lload_n 1, 1) := by decide +kernel
theorem c190_17 : mc_cd 190 17 = some (.lcmp, 1) := by decide +kernel
theorem c190_18 : mc_cd 190 18 = some (.ifCond .ne 5, 3) := by decide +kernel
theorem c190_21 : mc_cd 190 21 = some (.iload_n 3, 1) := by decide +kernel
theorem c190_22 : mc_cd 190 22 = some (.ireturn, 1) := by decide +kernel
theorem c190_23 : mc_cd 190 23 = some (.iinc 3 1, 3) := by decide +kernel
theorem c190_26 : mc_cd 190 26 = some (.goto (-24), 3) := by decide +kernel
theorem c190_29 : mc_cd 190 29 = some (.iconst (-1), 1) := by decide +kernel
theorem c190_30 : mc_cd 190 30 = some (.ireturn, 1) := by decide +kernel
abbrev q_190 (r0 : Nat) (a1 : Int) (T : wq_T) (H : wq_H) : Option Value → wq_T → wq_H → Prop := fun r T' H' => T = T' ∧ H = H' ∧ ∃ z : Int, some (vI z) = r ∧ ((-1) ≤ z ∧ z ≤ 5)
set_option maxHeartbeats 4000000 in
theorem s_190 {kt : Nat → Option mc_E} {T : wq_T} {H : wq_H} {r0 : Nat} {a1 : Int} (hW : WT T H) (g0 : T.2.2.2 r0 = some 54) (i1 : (-9223372036854775808) ≤ a1 ∧ a1 ≤ 9223372036854775807) : wpc kt 1 190 [.ref r0, vL a1] T H (q_190 r0 a1 T H) := by
  refine wp_enter e190 (Nat.le_of_ble_eq_true rfl) rfl ?_
  show wp _ _ 190 0 [(0, .ref r0), (1, vL a1)] [] _ H _
  refine wp_of e190 c190_0 (rw_iconst (pc' := 1) rfl ?_)
  refine wp_of e190 c190_1 (rw_istore_n (pc' := 2) (z := 0) (L' := [(3, vI 0), (0, .ref r0), (1, vL a1)]) rfl rfl rfl ?_)
  have lp86443 : ∀ (n86444 : Nat) (v86446 : Int), (0 ≤ v86446 ∧ v86446 ≤ 6) → (6 - v86446).toNat = n86444 → wp kt 0 190 2 [(3, vI v86446), (0, .ref r0), (1, vL a1)] [] T H (q_190 r0 a1 T H) := by
    intro n86444
    induction n86444 using Nat.strongRecOn with
    | _ n86444 ih86445 =>
      intro v86446 b86449 m86450
      refine wp_of e190 c190_2 (rw_iload_n (pc' := 3) (z := v86446) rfl rfl ?_)
      refine wp_of e190 c190_3 (rw_aload_n (pc' := 4) (v := .ref r0) rfl rfl rfl ?_)
      refine wp_of e190 c190_4 (xg_I (pc' := 7) lf_10_72 hW g0 sh_54 (by decide) (by decide) ty_54_3 rfl rfl (fun b86451 b86452 => ?_))
      refine wp_of e190 c190_7 (rw_icmp_ge (p1 := 29) (p2 := 10) (by decide) rfl ⟨by omega, by omega⟩ ⟨by omega, by omega⟩ (fun c86453 => ?_) (fun c86453 => ?_))
      · refine wp_of e190 c190_29 (rw_iconst (pc' := 30) rfl ?_)
        exact wp_ireturn e190 c190_30 rfl ⟨rfl, rfl, -1, rfl, ⟨by omega, by omega⟩⟩
      · refine wp_of e190 c190_10 (rw_aload_n (pc' := 11) (v := .ref r0) rfl rfl rfl ?_)
        refine wp_of e190 c190_11 (xg_R (pc' := 14) lf_10_15 hW g0 sh_54 (by decide) (by decide) ty_54_9 rfl rfl (fun r86454 q86455 g86456 => ?_))
        refine wp_of e190 c190_14 (rw_iload_n (pc' := 15) (z := v86446) rfl rfl ?_)
        refine wp_of e190 c190_15 (xa_L (pc' := 16) hW g86456 sh_55 (by decide) (ty_55 _) (by omega) (by omega) rfl (fun b86457 b86458 => ?_))
        refine wp_of e190 c190_16 (rw_lload_n (pc' := 17) (z := a1) rfl rfl ?_)
        refine wp_of e190 c190_17 (rw_lcmp (pc' := 18) rfl ⟨by omega, by omega⟩ ⟨by omega, by omega⟩ ?_)
        have b86459 := wq_cmp_b (H r86454 (v86446.toNat)) a1
        refine wp_of e190 c190_18 (rw_if_ne (p1 := 23) (p2 := 21) (by decide) rfl ⟨by omega, by omega⟩ (fun c86460 => ?_) (fun c86460 => ?_))
        · refine wp_of e190 c190_23 (rw_iinc (pc' := 26) (z := v86446) (L' := [(3, vI (v86446 + 1)), (0, .ref r0), (1, vL a1)]) rfl rfl rfl rfl ?_)
          refine wp_of e190 c190_26 (rw_goto (p1 := 2) (by decide) ?_)
          exact wp_lc (ks := [3, 0, 1]) (wl_c rfl (wl_c rfl (wl_c rfl wl_n))) rfl (by decide) (ih86445 _ (by omega) (v86446 + 1) ⟨by omega, by omega⟩ rfl)
        · refine wp_of e190 c190_21 (rw_iload_n (pc' := 22) (z := v86446) rfl rfl ?_)
          exact wp_ireturn e190 c190_22 rfl ⟨rfl, rfl, v86446, rfl, ⟨by omega, by omega⟩⟩
  exact wp_lc (ks := [3, 0, 1]) (wl_c rfl (wl_c rfl (wl_c rfl wl_n))) rfl (by decide) (lp86443 _ 0 ⟨by omega, by omega⟩ rfl)
/-! StrikeAwakeModel.least(II)I -/
theorem e191 : wq_en 191 = some (9, 2, false, some FieldType.int) := rfl
theorem c191_0 : mc_cd 191 0 = some (.iload_n 0, 1) := by decide +kernel
theorem c191_1 : mc_cd 191 1 = some (.iload_n 1, 1) := by decide +kernel
theorem c191_2 : mc_cd 191 2 = some (.if_icmp .ge 7, 3) := by decide +kernel
theorem c191_5 : mc_cd 191 5 = some (.iload_n 0, 1) := by decide +kernel
theorem c191_6 : mc_cd 191 6 = some (.goto 4, 3) := by decide +kernel
theorem c191_9 : mc_cd 191 9 = some (.iload_n 1, 1) := by decide +kernel
theorem c191_10 : mc_cd 191 10 = some (.ireturn, 1) := by decide +kernel
abbrev q_191 (a0 : Int) (a1 : Int) (T : wq_T) (H : wq_H) : Option Value → wq_T → wq_H → Prop := fun r T' H' => T = T' ∧ H = H' ∧ ∃ z : Int, some (vI z) = r ∧ (0 ≤ z ∧ z ≤ 100) ∧ (z ≤ a0 ∧ z ≤ a1)
set_option maxHeartbeats 4000000 in
theorem s_191 {kt : Nat → Option mc_E} {T : wq_T} {H : wq_H} {a0 : Int} {a1 : Int} (hW : WT T H) (i0 : 0 ≤ a0 ∧ a0 ≤ 100) (i1 : 0 ≤ a1 ∧ a1 ≤ 100) : wpc kt 1 191 [vI a0, vI a1] T H (q_191 a0 a1 T H) := by
  refine wp_enter e191 (Nat.le_of_ble_eq_true rfl) rfl ?_
  show wp _ _ 191 0 [(0, vI a0), (1, vI a1)] [] _ H _
  refine wp_of e191 c191_0 (rw_iload_n (pc' := 1) (z := a0) rfl rfl ?_)
  refine wp_of e191 c191_1 (rw_iload_n (pc' := 2) (z := a1) rfl rfl ?_)
  refine wp_of e191 c191_2 (rw_icmp_ge (p1 := 9) (p2 := 5) (by decide) rfl ⟨by omega, by omega⟩ ⟨by omega, by omega⟩ (fun c86462 => ?_) (fun c86462 => ?_))
  · refine wp_of e191 c191_9 (rw_iload_n (pc' := 10) (z := a1) rfl rfl ?_)
    exact wp_ireturn e191 c191_10 rfl ⟨rfl, rfl, a1, rfl, ⟨by omega, by omega⟩, by omega⟩
  · refine wp_of e191 c191_5 (rw_iload_n (pc' := 6) (z := a0) rfl rfl ?_)
    refine wp_of e191 c191_6 (rw_goto (p1 := 10) (by decide) ?_)
    exact wp_ireturn e191 c191_10 rfl ⟨rfl, rfl, a0, rfl, ⟨by omega, by omega⟩, by omega⟩
/-! StrikeAwakeModel.eatsWord(Ljava/lang/String;)Z -/
theorem e192 : wq_en 192 = some (9, 3, false, some FieldType.boolean) := rfl
theorem c192_0 : mc_cd 192 0 = some (.aload_n 0, 1) := by decide +kernel
theorem c192_1 : mc_cd 192 1 = some (.aload_n 1, 1) := by decide +kernel
theorem c192_2 : mc_cd 192 2 = some (.invokevirtual 114, 3) := by decide +kernel
theorem c192_5 : mc_cd 192 5 = some (.istore_n 2, 1) := by decide +kernel
theorem c192_6 : mc_cd 192 6 = some (.iload_n 2, 1) := by decide +kernel
theorem c192_7 : mc_cd 192 7 = some (.ifCond .eq 7, 3) := by decide +kernel
theorem c192_10 : mc_cd 192 10 = some (.aload_n 0, 1) := by decide +kernel
theorem c192_11 : mc_cd 192 11 = some (.invokevirtual 118, 3) := by decide +kernel
theorem c192_14 : mc_cd 192 14 = some (.iload_n 2, 1) := by decide +kernel
theorem c192_15 : mc_cd 192 15 = some (.ireturn, 1) := by decide +kernel
abbrev q_192 (r0 : Nat) (s1 : Nat) (T : wq_T) (H : wq_H) : Option Value → wq_T → wq_H → Prop := fun r T' H' => T = T' ∧ WT T H' ∧ wfr [(42, 8), (42, 9), (42, 10), (42, 11), (42, 12), (42, 15)] T H H' ∧ ∃ z : Int, some (vI z) = r ∧ (0 ≤ z ∧ z ≤ 1) ∧ (wJ H' r0 = 1) ∧ (H r0 10 ≤ H' r0 10) ∧ (wOV H r0 ≤ wOV H' r0) ∧ (wOV H' r0 ≤ 1)
set_option maxHeartbeats 4000000 in
theorem s_192 {kt : Nat → Option mc_E} {T : wq_T} {H : wq_H} {r0 : Nat} {s1 : Nat} {t1 : List Int32} (hW : WT T H) (g0 : T.2.2.2 r0 = some 42) (h1 : mc_find mc_sb s1 = some t1) (p0 : wJ H r0 = 1) : wpc kt 3 192 [.ref r0, .ref s1] T H (q_192 r0 s1 T H) := by
  refine wp_enter e192 (Nat.le_of_ble_eq_true rfl) rfl ?_
  have f0 : wfr [(42, 8), (42, 9), (42, 10), (42, 11), (42, 12), (42, 15)] T H H := wfr.rf
  show wp _ _ 192 0 [(0, .ref r0), (1, .ref s1)] [] _ H _
  have b86488 : (-2147483648) ≤ H r0 10 ∧ H r0 10 ≤ 2147483647 := hW.box g0 (n := 33) rfl (by decide) rfl
  have b86489 : 0 ≤ H r0 9 ∧ H r0 9 ≤ 5 := hW.box g0 (n := 33) rfl (by decide) rfl
  have b86490 : 0 ≤ H r0 8 ∧ H r0 8 ≤ 900 := hW.box g0 (n := 33) rfl (by decide) rfl
  have hb0 := wOV_b (H := H) (m := r0)
  refine wp_of e192 c192_0 (rw_aload_n (pc' := 1) (v := .ref r0) rfl rfl rfl ?_)
  refine wp_of e192 c192_1 (rw_aload_n (pc' := 2) (v := .ref s1) rfl rfl rfl ?_)
  refine wp_of e192 c192_2 (xc_V (pc' := 5) (r := r0) (as := [.ref s1]) (st := []) (lm_9_114) rfl rfl (Nat.le_of_ble_eq_true rfl) hW g0 sh_42 (by decide) rfl (by decide) (s_178 hW g0 h1) (fun R86491 T86492 H86493 p86494 => ?_))
  obtain ⟨e86495, e86497, z86498, e86496, b86499⟩ := p86494
  subst e86495
  subst e86496
  subst e86497
  show wp _ _ 192 5 [(0, .ref r0), (1, .ref s1)] [vI z86498] _ H _
  refine wp_of e192 c192_5 (rw_istore_n (pc' := 6) (z := z86498) (L' := [(2, vI z86498), (0, .ref r0), (1, .ref s1)]) rfl rfl rfl ?_)
  refine wp_of e192 c192_6 (rw_iload_n (pc' := 7) (z := z86498) rfl rfl ?_)
  refine wp_of e192 c192_7 (rw_if_eq (p1 := 14) (p2 := 10) (by decide) rfl ⟨by omega, by omega⟩ (fun c86500 => ?_) (fun c86500 => ?_))
  · refine wp_of e192 c192_14 (rw_iload_n (pc' := 15) (z := z86498) rfl rfl ?_)
    exact wp_zreturn e192 c192_15 rfl (by omega) ⟨rfl, hW, f0, z86498, rfl, ⟨by omega, by omega⟩, by omega, by omega, by omega, by omega⟩
  · refine wp_of e192 c192_10 (rw_aload_n (pc' := 11) (v := .ref r0) rfl rfl rfl ?_)
    refine wp_of e192 c192_11 (xc_V (pc' := 14) (r := r0) (as := []) (st := []) (lm_9_118) rfl rfl (Nat.le_of_ble_eq_true rfl) hW g0 sh_42 (by decide) rfl (by decide) (s_172 hW g0 (by omega)) (fun R86501 T86502 H86503 p86504 => ?_))
    obtain ⟨e86505, w86507, f86508, e86506, p86509, p86510, p86511, p86512, p86513, p86514⟩ := p86504
    subst e86505
    subst e86506
    have f86515 := f0.tr f86508 rfl
    show wp _ _ 192 14 [(2, vI z86498), (0, .ref r0), (1, .ref s1)] [] _ H86503 _
    refine wp_of e192 c192_14 (rw_iload_n (pc' := 15) (z := z86498) rfl rfl ?_)
    exact wp_zreturn e192 c192_15 rfl (by omega) ⟨rfl, w86507, f86515, z86498, rfl, ⟨by omega, by omega⟩, by omega, by omega, by omega, by omega⟩
/-! StrikeAwakeModel.readPerson()V -/
theorem e187 : wq_en 187 = some (9, 13, false, none) := rfl
theorem c187_0 : mc_cd 187 0 = some (.aload_n 0, 1) := by decide +kernel
theorem c187_1 : mc_cd 187 1 = some (.aload_n 0, 1) := by decide +kernel
theorem c187_2 : mc_cd 187 2 = some (.getfield 166, 3) := by decide +kernel
theorem c187_5 : mc_cd 187 5 = some (.getfield 188, 3) := by decide +kernel
theorem c187_8 : mc_cd 187 8 = some (.bipush 6, 2) := by decide +kernel
theorem c187_10 : mc_cd 187 10 = some (.invokevirtual 228, 3) := by decide +kernel
theorem c187_13 : mc_cd 187 13 = some (.aload_n 0, 1) := by decide +kernel
theorem c187_14 : mc_cd 187 14 = some (.invokevirtual 162, 3) := by decide +kernel
theorem c187_17 : mc_cd 187 17 = some (.ifCond .ne 8, 3) := by decide +kernel
theorem c187_20 : mc_cd 187 20 = some (.aload_n 0, 1) := by decide +kernel
theorem c187_21 : mc_cd 187 21 = some (.iconst 1, 1) := by decide +kernel
theorem c187_22 : mc_cd 187 22 = some (.invokevirtual 121, 3) := by decide +kernel
theorem c187_25 : mc_cd 187 25 = some (.aload_n 0, 1) := by decide +kernel
theorem c187_26 : mc_cd 187 26 = some (.getfield 166, 3) := by decide +kernel
theorem c187_29 : mc_cd 187 29 = some (.aload_n 0, 1) := by decide +kernel
theorem c187_30 : mc_cd 187 30 = some (.getfield 94, 3) := by decide +kernel
theorem c187_33 : mc_cd 187 33 = some (.invokevirtual 170, 3) := by decide +kernel
theorem c187_36 : mc_cd 187 36 = some (.iconst (-1), 1) := by decide +kernel
theorem c187_37 : mc_cd 187 37 = some (.if_icmp .eq 8, 3) := by decide +kernel
theorem c187_40 : mc_cd 187 40 = some (.aload_n 0, 1) := by decide +kernel
theorem c187_41 : mc_cd 187 41 = some (.iconst 3, 1) := by decide +kernel
theorem c187_42 : mc_cd 187 42 = some (.invokevirtual 121, 3) := by decide +kernel
theorem c187_45 : mc_cd 187 45 = some (.aload_n 0, 1) := by decide +kernel
theorem c187_46 : mc_cd 187 46 = some (.getfield 94, 3) := by decide +kernel
theorem c187_49 : mc_cd 187 49 = some (.lstore_n 1, 1) := by decide +kernel
theorem c187_50 : mc_cd 187 50 = some (.aload_n 0, 1) := by decide +kernel
theorem c187_51 : mc_cd 187 51 = some (.invokevirtual 118, 3) := by decide +kernel
theorem c187_54 : mc_cd 187 54 = some (.aload_n 0, 1) := by decide +kernel
theorem c187_55 : mc_cd 187 55 = some (.ldc 232, 2) := by decide +kernel
theorem c187_57 : mc_cd 187 57 = some (.iconst 0, 1) := by decide +kernel
theorem c187_58 : mc_cd 187 58 = some (.bipush 23, 2) := by decide +kernel
theorem c187_60 : mc_cd 187 60 = some (.invokevirtual 216, 3) := by decide +kernel
theorem c187_63 : mc_cd 187 63 = some (.istore_n 3, 1) := by decide +kernel
theorem c187_64 : mc_cd 187 64 = some (.aload_n 0, 1) := by decide +kernel
theorem c187_65 : mc_cd 187 65 = some (.ldc 233, 2) := by decide +kernel
theorem c187_67 : mc_cd 187 67 = some (.iload_n 3, 1) := by decide +kernel
theorem c187_68 : mc_cd 187 68 = some (.bipush 23, 2) := by decide +kernel
theorem c187_70 : mc_cd 187 70 = some (.iload_n 3, 1) := by decide +kernel
theorem c187_71 : mc_cd 187 71 = some (.bipush 7, 2) := by decide +kernel
theorem c187_73 : mc_cd 187 73 = some (.iadd, 1) := by decide +kernel
theorem c187_74 : mc_cd 187 74 = some (.invokestatic 235, 3) := by decide +kernel
theorem c187_77 : mc_cd 187 77 = some (.invokevirtual 216, 3) := by decide +kernel
theorem c187_80 : mc_cd 187 80 = some (.istore 4, 2) := by decide +kernel
theorem c187_82 : mc_cd 187 82 = some (.aload_n 0, 1) := by decide +kernel
theorem c187_83 : mc_cd 187 83 = some (.ldc 238, 2) := by decide +kernel
theorem c187_85 : mc_cd 187 85 = some (.iconst 0, 1) := by decide +kernel
theorem c187_86 : mc_cd 187 86 = some (.bipush 12, 2) := by decide +kernel
theorem c187_88 : mc_cd 187 88 = some (.invokevirtual 216, 3) := by decide +kernel
theorem c187_91 : mc_cd 187 91 = some (.istore 5, 2) := by decide +kernel
theorem c187_93 : mc_cd 187 93 = some (.aload_n 0, 1) := by decide +kernel
theorem c187_94 : mc_cd 187 94 = some (.ldc 233, 2) := by decide +kernel
theorem c187_96 : mc_cd 187 96 = some (.iload 5, 2) := by decide +kernel
theorem c187_98 : mc_cd 187 98 = some (.bipush 12, 2) := by decide +kernel
theorem c187_100 : mc_cd 187 100 = some (.iload 5, 2) := by decide +kernel
theorem c187_102 : mc_cd 187 102 = some (.iconst 4, 1) := by decide +kernel
theorem c187_103 : mc_cd 187 103 = some (.iadd, 1) := by decide +kernel
theorem c187_104 : mc_cd 187 104 = some (.invokestatic 235, 3) := by decide +kernel
theorem c187_107 : mc_cd 187 107 = some (.invokevirtual 216, 3) := by decide +kernel
theorem c187_110 : mc_cd 187 110 = some (.istore 6, 2) := by decide +kernel
theorem c187_112 : mc_cd 187 112 = some (.aload_n 0, 1) := by decide +kernel
theorem c187_113 : mc_cd 187 113 = some (.ldc 156, 2) := by decide +kernel
theorem c187_115 : mc_cd 187 115 = some (.invokevirtual 240, 3) := by decide +kernel
theorem c187_118 : mc_cd 187 118 = some (.ifCond .eq 13, 3) := by decide +kernel
theorem c187_121 : mc_cd 187 121 = some (.aload_n 0, 1) := by decide +kernel
theorem c187_122 : mc_cd 187 122 = some (.iconst 0, 1) := by decide +kernel
theorem c187_123 : mc_cd 187 123 = some (.bipush 23, 2) := by decide +kernel
theorem c187_125 : mc_cd 187 125 = some (.invokevirtual 137, 3) := by decide +kernel
theorem c187_128 : mc_cd 187 128 = some (.goto 4, 3) := by decide +kernel
theorem c187_131 : mc_cd 187 131 = some (.iconst (-1), 1) := by decide +kernel
theorem c187_132 : mc_cd 187 132 = some (.istore 7, 2) := by decide +kernel
theorem c187_134 : mc_cd 187 134 = some (.aload_n 0, 1) := by decide +kernel
theorem c187_135 : mc_cd 187 135 = some (.ldc 158, 2) := by decide +kernel
theorem c187_137 : mc_cd 187 137 = some (.invokevirtual 240, 3) := by decide +kernel
theorem c187_140 : mc_cd 187 140 = some (.istore 8, 2) := by decide +kernel
theorem c187_142 : mc_cd 187 142 = some (.iload 8, 2) := by decide +kernel
theorem c187_144 : mc_cd 187 144 = some (.ifCond .eq 13, 3) := by decide +kernel
theorem c187_147 : mc_cd 187 147 = some (.aload_n 0, 1) := by decide +kernel
theorem c187_148 : mc_cd 187 148 = some (.iconst 0, 1) := by decide +kernel
theorem c187_149 : mc_cd 187 149 = some (.bipush 23, 2) := by decide +kernel
theorem c187_151 : mc_cd 187 151 = some (.invokevirtual 137, 3) := by decide +kernel
theorem c187_154 : mc_cd 187 154 = some (.goto 4, 3) := by decide +kernel
theorem c187_157 : mc_cd 187 157 = some (.iconst 0, 1) := by decide +kernel
theorem c187_158 : mc_cd 187 158 = some (.istore 9, 2) := by decide +kernel
theorem c187_160 : mc_cd 187 160 = some (.iload 8, 2) := by decide +kernel
theorem c187_162 : mc_cd 187 162 = some (.ifCond .eq 18, 3) := by decide +kernel
theorem c187_165 : mc_cd 187 165 = some (.aload_n 0, 1) := by decide +kernel
theorem c187_166 : mc_cd 187 166 = some (.ldc 233, 2) := by decide +kernel
theorem c187_168 : mc_cd 187 168 = some (.iload 9, 2) := by decide +kernel
theorem c187_170 : mc_cd 187 170 = some (.iconst 1, 1) := by decide +kernel
theorem c187_171 : mc_cd 187 171 = some (.iadd, 1) := by decide +kernel
theorem c187_172 : mc_cd 187 172 = some (.bipush 24, 2) := by decide +kernel
theorem c187_174 : mc_cd 187 174 = some (.invokevirtual 216, 3) := by decide +kernel
theorem c187_177 : mc_cd 187 177 = some (.goto 4, 3) := by decide +kernel
theorem c187_180 : mc_cd 187 180 = some (.iconst 0, 1) := by decide +kernel
theorem c187_181 : mc_cd 187 181 = some (.istore 10, 2) := by decide +kernel
theorem c187_183 : mc_cd 187 183 = some (.aload_n 0, 1) := by decide +kernel
theorem c187_184 : mc_cd 187 184 = some (.ldc 160, 2) := by decide +kernel
theorem c187_186 : mc_cd 187 186 = some (.invokevirtual 240, 3) := by decide +kernel
theorem c187_189 : mc_cd 187 189 = some (.istore 11, 2) := by decide +kernel
theorem c187_191 : mc_cd 187 191 = some (.aload_n 0, 1) := by decide +kernel
theorem c187_192 : mc_cd 187 192 = some (.getfield 75, 3) := by decide +kernel
theorem c187_195 : mc_cd 187 195 = some (.iconst 5, 1) := by decide +kernel
theorem c187_196 : mc_cd 187 196 = some (.if_icmp .ne 4, 3) := by decide +kernel
theorem c187_199 : mc_cd 187 199 = some (.return_, 1) := by decide +kernel
theorem c187_200 : mc_cd 187 200 = some (.aload_n 0, 1) := by decide +kernel
theorem c187_201 : mc_cd 187 201 = some (.getfield 166, 3) := by decide +kernel
theorem c187_204 : mc_cd 187 204 = some (.getfield 188, 3) := by decide +kernel
theorem c187_207 : mc_cd 187 207 = some (.istore 12, 2) := by decide +kernel
theorem c187_209 : mc_cd 187 209 = some (.aload_n 0, 1) := by decide +kernel
theorem c187_210 : mc_cd 187 210 = some (.getfield 166, 3) := by decide +kernel
theorem c187_213 : mc_cd 187 213 = some (.getfield 243, 3) := by decide +kernel
theorem c187_216 : mc_cd 187 216 = some (.iload 12, 2) := by decide +kernel
theorem c187_218 : mc_cd 187 218 = some (.lload_n 1, 1) := by decide +kernel
theorem c187_219 : mc_cd 187 219 = some (.lastore, 1) := by decide +kernel
theorem c187_220 : mc_cd 187 220 = some (.aload_n 0, 1) := by decide +kernel
theorem c187_221 : mc_cd 187 221 = some (.getfield 166, 3) := by decide +kernel
theorem c187_224 : mc_cd 187 224 = some (.getfield 247, 3) := by decide +kernel
theorem c187_227 : mc_cd 187 227 = some (.iload 12, 2) := by decide +kernel
theorem c187_229 : mc_cd 187 229 = some (.iload_n 3, 1) := by decide +kernel
theorem c187_230 : mc_cd 187 230 = some (.iastore, 1) := by decide +kernel
theorem c187_231 : mc_cd 187 231 = some (.aload_n 0, 1) := by decide +kernel
theorem c187_232 : mc_cd 187 232 = some (.getfield 166, 3) := by decide +kernel
theorem c187_235 : mc_cd 187 235 = some (.getfield 250, 3) := by decide +kernel
theorem c187_238 : mc_cd 187 238 = some (.iload 12, 2) := by decide +kernel
theorem c187_240 : mc_cd 187 240 = some (.iload 4, 2) := by decide +kernel
theorem c187_242 : mc_cd 187 242 = some (.iastore, 1) := by decide +kernel
theorem c187_243 : mc_cd 187 243 = some (.aload_n 0, 1) := by decide +kernel
theorem c187_244 : mc_cd 187 244 = some (.getfield 166, 3) := by decide +kernel
theorem c187_247 : mc_cd 187 247 = some (.getfield 253, 3) := by decide +kernel
theorem c187_250 : mc_cd 187 250 = some (.iload 12, 2) := by decide +kernel
theorem c187_252 : mc_cd 187 252 = some (.iload 5, 2) := by decide +kernel
theorem c187_254 : mc_cd 187 254 = some (.iastore, 1) := by decide +kernel
theorem c187_255 : mc_cd 187 255 = some (.aload_n 0, 1) := by decide +kernel
theorem c187_256 : mc_cd 187 256 = some (.getfield 166, 3) := by decide +kernel
theorem c187_259 : mc_cd 187 259 = some (.getfield 256, 3) := by decide +kernel
theorem c187_262 : mc_cd 187 262 = some (.iload 12, 2) := by decide +kernel
theorem c187_264 : mc_cd 187 264 = some (.iload 6, 2) := by decide +kernel
theorem c187_266 : mc_cd 187 266 = some (.iastore, 1) := by decide +kernel
theorem c187_267 : mc_cd 187 267 = some (.aload_n 0, 1) := by decide +kernel
theorem c187_268 : mc_cd 187 268 = some (.getfield 166, 3) := by decide +kernel
theorem c187_271 : mc_cd 187 271 = some (.getfield 259, 3) := by decide +kernel
theorem c187_274 : mc_cd 187 274 = some (.iload 12, 2) := by decide +kernel
theorem c187_276 : mc_cd 187 276 = some (.iload 7, 2) := by decide +kernel
theorem c187_278 : mc_cd 187 278 = some (.iastore, 1) := by decide +kernel
theorem c187_279 : mc_cd 187 279 = some (.aload_n 0, 1) := by decide +kernel
theorem c187_280 : mc_cd 187 280 = some (.getfield 166, 3) := by decide +kernel
theorem c187_283 : mc_cd 187 283 = some (.getfield 261, 3) := by decide +kernel
theorem c187_286 : mc_cd 187 286 = some (.iload 12, 2) := by decide +kernel
theorem c187_288 : mc_cd 187 288 = some (.iload 9, 2) := by decide +kernel
theorem c187_290 : mc_cd 187 290 = some (.iastore, 1) := by decide +kernel
theorem c187_291 : mc_cd 187 291 = some (.aload_n 0, 1) := by decide +kernel
theorem c187_292 : mc_cd 187 292 = some (.getfield 166, 3) := by decide +kernel
theorem c187_295 : mc_cd 187 295 = some (.getfield 264, 3) := by decide +kernel
theorem c187_298 : mc_cd 187 298 = some (.iload 12, 2) := by decide +kernel
theorem c187_300 : mc_cd 187 300 = some (.iload 10, 2) := by decide +kernel
theorem c187_302 : mc_cd 187 302 = some (.iastore, 1) := by decide +kernel
theorem c187_303 : mc_cd 187 303 = some (.aload_n 0, 1) := by decide +kernel
theorem c187_304 : mc_cd 187 304 = some (.getfield 166, 3) := by decide +kernel
theorem c187_307 : mc_cd 187 307 = some (.getfield 267, 3) := by decide +kernel
theorem c187_310 : mc_cd 187 310 = some (.iload 12, 2) := by decide +kernel
theorem c187_312 : mc_cd 187 312 = some (.iload 11, 2) := by decide +kernel
theorem c187_314 : mc_cd 187 314 = some (.bastore, 1) := by decide +kernel
theorem c187_315 : mc_cd 187 315 = some (.aload_n 0, 1) := by decide +kernel
theorem c187_316 : mc_cd 187 316 = some (.getfield 166, 3) := by decide +kernel
theorem c187_319 : mc_cd 187 319 = some (.dup, 1) := by decide +kernel
theorem c187_320 : mc_cd 187 320 = some (.getfield 188, 3) := by decide +kernel
theorem c187_323 : mc_cd 187 323 = some (.iconst 1, 1) := by decide +kernel
theorem c187_324 : mc_cd 187 324 = some (.iadd, 1) := by decide +kernel
theorem c187_325 : mc_cd 187 325 = some (.putfield 188, 3) := by decide +kernel
theorem c187_328 : mc_cd 187 328 = some (.return_, 1) := by decide +kernel
abbrev q_187 (r0 : Nat) (rp : Nat) (T : wq_T) (H : wq_H) : Option Value → wq_T → wq_H → Prop := fun r T' H' => T = T' ∧ WT T H' ∧ wfr [(54, 3), (42, 8), (42, 9), (42, 10), (42, 11), (42, 12), (42, 13), (42, 14), (42, 15), (56, 999), (57, 999), (60, 999), (63, 999), (58, 999), (59, 999), (55, 999), (61, 999), (62, 999)] T H H' ∧ none = r ∧ (wJ H' r0 = 1) ∧ (H r0 10 ≤ H' r0 10) ∧ (wOV H r0 ≤ wOV H' r0) ∧ (wOV H' r0 ≤ 1) ∧ (wPI H' rp = 1) ∧ (∀ a, a ≠ rp → T.2.2.2 a = some 54 → H' a 3 = H a 3)
set_option maxHeartbeats 4000000 in
theorem s_187 {kt : Nat → Option mc_E} {T : wq_T} {H : wq_H} {r0 : Nat} {rp : Nat} (hW : WT T H) (g0 : T.2.2.2 r0 = some 42) (qrp : H r0 4 = (rp : Int)) (grp : T.2.2.2 rp = some 54) (p0 : wJ H r0 = 1) (p1 : wPI H rp = 1) : wpc kt 5 187 [.ref r0] T H (q_187 r0 rp T H) := by
  refine wp_enter e187 (Nat.le_of_ble_eq_true rfl) rfl ?_
  have f0 : wfr [(54, 3), (42, 8), (42, 9), (42, 10), (42, 11), (42, 12), (42, 13), (42, 14), (42, 15), (56, 999), (57, 999), (60, 999), (63, 999), (58, 999), (59, 999), (55, 999), (61, 999), (62, 999)] T H H := wfr.rf
  show wp _ _ 187 0 [(0, .ref r0)] [] _ H _
  have b87029 : (-2147483648) ≤ H r0 10 ∧ H r0 10 ≤ 2147483647 := hW.box g0 (n := 33) rfl (by decide) rfl
  have b87030 : 0 ≤ H r0 9 ∧ H r0 9 ≤ 5 := hW.box g0 (n := 33) rfl (by decide) rfl
  have b87031 : 0 ≤ H r0 8 ∧ H r0 8 ≤ 900 := hW.box g0 (n := 33) rfl (by decide) rfl
  have hb0 := wOV_b (H := H) (m := r0)
  refine wp_of e187 c187_0 (rw_aload_n (pc' := 1) (v := .ref r0) rfl rfl rfl ?_)
  refine wp_of e187 c187_1 (rw_aload_n (pc' := 2) (v := .ref r0) rfl rfl rfl ?_)
  refine wp_of e187 c187_2 (xg_K (pc' := 5) lf_9_166 hW g0 sh_42 (by decide) (by decide) rfl qrp rfl ?_)
  refine wp_of e187 c187_5 (xg_I (pc' := 8) lf_9_188 hW grp sh_54 (by decide) (by decide) ty_54_3 rfl rfl (fun b87032 b87033 => ?_))
  refine wp_of e187 c187_8 (rw_bipush (pc' := 10) (z := 6) rfl (by decide) ?_)
  refine wp_of e187 c187_10 (xc_V (pc' := 13) (r := r0) (as := [vI (H rp 3), vI 6]) (st := []) (lm_9_228) rfl rfl (Nat.le_of_ble_eq_true rfl) hW g0 sh_42 (by decide) rfl (by decide) (s_188 hW g0 ⟨by omega, by omega⟩ ⟨by omega, by omega⟩ (by omega)) (fun R87034 T87035 H87036 p87037 => ?_))
  obtain ⟨e87038, w87040, f87041, e87039, p87042, p87043, p87044, p87045, p87046⟩ := p87037
  subst e87038
  subst e87039
  have f87047 := f0.tr f87041 rfl
  show wp _ _ 187 13 [(0, .ref r0)] [] _ H87036 _
  refine wp_of e187 c187_13 (rw_aload_n (pc' := 14) (v := .ref r0) rfl rfl rfl ?_)
  refine wp_of e187 c187_14 (xc_V (pc' := 17) (r := r0) (as := []) (st := []) (lm_9_162) rfl rfl (Nat.le_of_ble_eq_true rfl) w87040 g0 sh_42 (by decide) rfl (by decide) (s_189 w87040 g0) (fun R87048 T87049 H87050 p87051 => ?_))
  obtain ⟨e87052, e87054, z87055, e87053, b87056⟩ := p87051
  subst e87052
  subst e87053
  subst e87054
  show wp _ _ 187 17 [(0, .ref r0)] [vI z87055] _ H87036 _
  have jn87074 : ∀  (H87073 : wq_H), WT T H87073 → wfr [(42, 9), (42, 13), (42, 14)] T H87036 H87073 → (wJ H87073 r0 = 1) → (H r0 10 ≤ H87073 r0 10) → (wOV H r0 ≤ wOV H87073 r0) → (wOV H87073 r0 ≤ 1) → (wOV H87073 r0 = 1 ∨ H rp 3 ≠ 6) → wp kt 4 187 25 [(0, .ref r0)] [] T H87073 (q_187 r0 rp T H) := by
    intro H87073 w87075 f87076 x87077 x87078 x87079 x87080 x87081
    have f87082 := f87047.tr f87076 rfl
    have k87083 : H87073 r0 10 = H87036 r0 10 := (f87076 r0 10 _ g0 rfl)
    refine wp_of e187 c187_25 (rw_aload_n (pc' := 26) (v := .ref r0) rfl rfl rfl ?_)
    have k87084 : H87073 r0 4 = H r0 4 := ((f87076 r0 4 _ g0 rfl).trans (f87041 r0 4 _ g0 rfl))
    have q87085 : H87073 r0 4 = (rp : Int) := k87084.trans qrp
    refine wp_of e187 c187_26 (xg_K (pc' := 29) lf_9_166 w87075 g0 sh_42 (by decide) (by decide) rfl q87085 rfl ?_)
    refine wp_of e187 c187_29 (rw_aload_n (pc' := 30) (v := .ref r0) rfl rfl rfl ?_)
    refine wp_of e187 c187_30 (xg_L (pc' := 33) lf_9_94 w87075 g0 sh_42 (by decide) (by decide) ty_42_15 rfl rfl (fun b87086 b87087 => ?_))
    refine wp_of e187 c187_33 (xc_V (pc' := 36) (r := rp) (as := [vL (H87073 r0 15)]) (st := []) (lm_9_170) rfl rfl (Nat.le_of_ble_eq_true rfl) w87075 grp sh_54 (by decide) rfl (by decide) (s_190 w87075 grp ⟨by omega, by omega⟩) (fun R87088 T87089 H87090 p87091 => ?_))
    obtain ⟨e87092, e87094, z87095, e87093, b87096⟩ := p87091
    subst e87092
    subst e87093
    subst e87094
    show wp _ _ 187 36 [(0, .ref r0)] [vI z87095] _ H87073 _
    refine wp_of e187 c187_36 (rw_iconst (pc' := 37) rfl ?_)
    have jn87114 : ∀  (H87113 : wq_H), WT T H87113 → wfr [(42, 9), (42, 13), (42, 14)] T H87073 H87113 → (wJ H87113 r0 = 1) → (H r0 10 ≤ H87113 r0 10) → (wOV H r0 ≤ wOV H87113 r0) → (wOV H87113 r0 ≤ 1) → (wOV H87113 r0 = 1 ∨ H rp 3 ≠ 6) → wp kt 4 187 45 [(0, .ref r0)] [] T H87113 (q_187 r0 rp T H) := by
      intro H87113 w87115 f87116 x87117 x87118 x87119 x87120 x87121
      have f87122 := f87082.tr f87116 rfl
      have k87123 : H87113 r0 10 = H87073 r0 10 := (f87116 r0 10 _ g0 rfl)
      refine wp_of e187 c187_45 (rw_aload_n (pc' := 46) (v := .ref r0) rfl rfl rfl ?_)
      have k87124 : H87113 r0 15 = H87073 r0 15 := (f87116 r0 15 _ g0 rfl)
      refine wp_of e187 c187_46 (xg_L (pc' := 49) lf_9_94 w87115 g0 sh_42 (by decide) (by decide) ty_42_15 rfl rfl (fun b87125 b87126 => ?_))
      refine wp_of e187 c187_49 (rw_lstore_n (pc' := 50) (z := H87113 r0 15) (L' := [(1, vL (H87113 r0 15)), (0, .ref r0)]) rfl rfl rfl ?_)
      refine wp_of e187 c187_50 (rw_aload_n (pc' := 51) (v := .ref r0) rfl rfl rfl ?_)
      refine wp_of e187 c187_51 (xc_V (pc' := 54) (r := r0) (as := []) (st := []) (lm_9_118) rfl rfl (Nat.le_of_ble_eq_true rfl) w87115 g0 sh_42 (by decide) rfl (by decide) (s_172 w87115 g0 (by omega)) (fun R87127 T87128 H87129 p87130 => ?_))
      obtain ⟨e87131, w87133, f87134, e87132, p87135, p87136, p87137, p87138, p87139, p87140⟩ := p87130
      subst e87131
      subst e87132
      have f87141 := f87122.tr f87134 rfl
      show wp _ _ 187 54 [(1, vL (H87113 r0 15)), (0, .ref r0)] [] _ H87129 _
      refine wp_of e187 c187_54 (rw_aload_n (pc' := 55) (v := .ref r0) rfl rfl rfl ?_)
      refine wp_of e187 c187_55 (rw_ldcS (pc' := 57) (k := 86) rfl rfl rfl rfl ?_)
      refine wp_of e187 c187_57 (rw_iconst (pc' := 58) rfl ?_)
      refine wp_of e187 c187_58 (rw_bipush (pc' := 60) (z := 23) rfl (by decide) ?_)
      refine wp_of e187 c187_60 (xc_V (pc' := 63) (r := r0) (as := [.ref 86, vI 0, vI 23]) (st := []) (lm_9_216) rfl rfl (Nat.le_of_ble_eq_true rfl) w87133 g0 sh_42 (by decide) rfl (by decide) (s_182 w87133 g0 rfl ⟨by omega, by omega⟩ ⟨by omega, by omega⟩ (by omega)) (fun R87142 T87143 H87144 p87145 => ?_))
      obtain ⟨e87146, w87148, f87149, z87155, e87147, b87156, p87150, p87151, p87152, p87153, p87154⟩ := p87145
      subst e87146
      subst e87147
      have f87157 := f87141.tr f87149 rfl
      show wp _ _ 187 63 [(1, vL (H87113 r0 15)), (0, .ref r0)] [vI z87155] _ H87144 _
      refine wp_of e187 c187_63 (rw_istore_n (pc' := 64) (z := z87155) (L' := [(3, vI z87155), (1, vL (H87113 r0 15)), (0, .ref r0)]) rfl rfl rfl ?_)
      refine wp_of e187 c187_64 (rw_aload_n (pc' := 65) (v := .ref r0) rfl rfl rfl ?_)
      refine wp_of e187 c187_65 (rw_ldcS (pc' := 67) (k := 87) rfl rfl rfl rfl ?_)
      refine wp_of e187 c187_67 (rw_iload_n (pc' := 68) (z := z87155) rfl rfl ?_)
      refine wp_of e187 c187_68 (rw_bipush (pc' := 70) (z := 23) rfl (by decide) ?_)
      refine wp_of e187 c187_70 (rw_iload_n (pc' := 71) (z := z87155) rfl rfl ?_)
      refine wp_of e187 c187_71 (rw_bipush (pc' := 73) (z := 7) rfl (by decide) ?_)
      refine wp_of e187 c187_73 (rw_iadd (pc' := 74) rfl ?_)
      refine wp_of e187 c187_74 (xc_S (pc' := 77) (as := [vI 23, vI (z87155 + 7)]) (st := [vI z87155, .ref 87, .ref r0]) (lm_9_235) rfl rfl (Nat.le_of_ble_eq_true rfl) rfl (by decide) (s_191 w87148 ⟨by omega, by omega⟩ ⟨by omega, by omega⟩) (fun R87158 T87159 H87160 p87161 => ?_))
      obtain ⟨e87162, e87164, z87166, e87163, b87167, p87165⟩ := p87161
      subst e87162
      subst e87163
      subst e87164
      show wp _ _ 187 77 [(3, vI z87155), (1, vL (H87113 r0 15)), (0, .ref r0)] [vI z87166, vI z87155, .ref 87, .ref r0] _ H87144 _
      refine wp_of e187 c187_77 (xc_V (pc' := 80) (r := r0) (as := [.ref 87, vI z87155, vI z87166]) (st := []) (lm_9_216) rfl rfl (Nat.le_of_ble_eq_true rfl) w87148 g0 sh_42 (by decide) rfl (by decide) (s_182 w87148 g0 rfl ⟨by omega, by omega⟩ ⟨by omega, by omega⟩ (by omega)) (fun R87168 T87169 H87170 p87171 => ?_))
      obtain ⟨e87172, w87174, f87175, z87181, e87173, b87182, p87176, p87177, p87178, p87179, p87180⟩ := p87171
      subst e87172
      subst e87173
      have f87183 := f87157.tr f87175 rfl
      show wp _ _ 187 80 [(3, vI z87155), (1, vL (H87113 r0 15)), (0, .ref r0)] [vI z87181] _ H87170 _
      refine wp_of e187 c187_80 (rw_istore (pc' := 82) (z := z87181) (L' := [(4, vI z87181), (3, vI z87155), (1, vL (H87113 r0 15)), (0, .ref r0)]) rfl rfl rfl ?_)
      refine wp_of e187 c187_82 (rw_aload_n (pc' := 83) (v := .ref r0) rfl rfl rfl ?_)
      refine wp_of e187 c187_83 (rw_ldcS (pc' := 85) (k := 88) rfl rfl rfl rfl ?_)
      refine wp_of e187 c187_85 (rw_iconst (pc' := 86) rfl ?_)
      refine wp_of e187 c187_86 (rw_bipush (pc' := 88) (z := 12) rfl (by decide) ?_)
      refine wp_of e187 c187_88 (xc_V (pc' := 91) (r := r0) (as := [.ref 88, vI 0, vI 12]) (st := []) (lm_9_216) rfl rfl (Nat.le_of_ble_eq_true rfl) w87174 g0 sh_42 (by decide) rfl (by decide) (s_182 w87174 g0 rfl ⟨by omega, by omega⟩ ⟨by omega, by omega⟩ (by omega)) (fun R87184 T87185 H87186 p87187 => ?_))
      obtain ⟨e87188, w87190, f87191, z87197, e87189, b87198, p87192, p87193, p87194, p87195, p87196⟩ := p87187
      subst e87188
      subst e87189
      have f87199 := f87183.tr f87191 rfl
      show wp _ _ 187 91 [(4, vI z87181), (3, vI z87155), (1, vL (H87113 r0 15)), (0, .ref r0)] [vI z87197] _ H87186 _
      refine wp_of e187 c187_91 (rw_istore (pc' := 93) (z := z87197) (L' := [(5, vI z87197), (4, vI z87181), (3, vI z87155), (1, vL (H87113 r0 15)), (0, .ref r0)]) rfl rfl rfl ?_)
      refine wp_of e187 c187_93 (rw_aload_n (pc' := 94) (v := .ref r0) rfl rfl rfl ?_)
      refine wp_of e187 c187_94 (rw_ldcS (pc' := 96) (k := 87) rfl rfl rfl rfl ?_)
      refine wp_of e187 c187_96 (rw_iload (pc' := 98) (z := z87197) rfl rfl ?_)
      refine wp_of e187 c187_98 (rw_bipush (pc' := 100) (z := 12) rfl (by decide) ?_)
      refine wp_of e187 c187_100 (rw_iload (pc' := 102) (z := z87197) rfl rfl ?_)
      refine wp_of e187 c187_102 (rw_iconst (pc' := 103) rfl ?_)
      refine wp_of e187 c187_103 (rw_iadd (pc' := 104) rfl ?_)
      refine wp_of e187 c187_104 (xc_S (pc' := 107) (as := [vI 12, vI (z87197 + 4)]) (st := [vI z87197, .ref 87, .ref r0]) (lm_9_235) rfl rfl (Nat.le_of_ble_eq_true rfl) rfl (by decide) (s_191 w87190 ⟨by omega, by omega⟩ ⟨by omega, by omega⟩) (fun R87200 T87201 H87202 p87203 => ?_))
      obtain ⟨e87204, e87206, z87208, e87205, b87209, p87207⟩ := p87203
      subst e87204
      subst e87205
      subst e87206
      show wp _ _ 187 107 [(5, vI z87197), (4, vI z87181), (3, vI z87155), (1, vL (H87113 r0 15)), (0, .ref r0)] [vI z87208, vI z87197, .ref 87, .ref r0] _ H87186 _
      refine wp_of e187 c187_107 (xc_V (pc' := 110) (r := r0) (as := [.ref 87, vI z87197, vI z87208]) (st := []) (lm_9_216) rfl rfl (Nat.le_of_ble_eq_true rfl) w87190 g0 sh_42 (by decide) rfl (by decide) (s_182 w87190 g0 rfl ⟨by omega, by omega⟩ ⟨by omega, by omega⟩ (by omega)) (fun R87210 T87211 H87212 p87213 => ?_))
      obtain ⟨e87214, w87216, f87217, z87223, e87215, b87224, p87218, p87219, p87220, p87221, p87222⟩ := p87213
      subst e87214
      subst e87215
      have f87225 := f87199.tr f87217 rfl
      show wp _ _ 187 110 [(5, vI z87197), (4, vI z87181), (3, vI z87155), (1, vL (H87113 r0 15)), (0, .ref r0)] [vI z87223] _ H87212 _
      refine wp_of e187 c187_110 (rw_istore (pc' := 112) (z := z87223) (L' := [(6, vI z87223), (5, vI z87197), (4, vI z87181), (3, vI z87155), (1, vL (H87113 r0 15)), (0, .ref r0)]) rfl rfl rfl ?_)
      refine wp_of e187 c187_112 (rw_aload_n (pc' := 113) (v := .ref r0) rfl rfl rfl ?_)
      refine wp_of e187 c187_113 (rw_ldcS (pc' := 115) (k := 83) rfl rfl rfl rfl ?_)
      refine wp_of e187 c187_115 (xc_V (pc' := 118) (r := r0) (as := [.ref 83]) (st := []) (lm_9_240) rfl rfl (Nat.le_of_ble_eq_true rfl) w87216 g0 sh_42 (by decide) rfl (by decide) (s_192 w87216 g0 rfl (by omega)) (fun R87226 T87227 H87228 p87229 => ?_))
      obtain ⟨e87230, w87232, f87233, z87238, e87231, b87239, p87234, p87235, p87236, p87237⟩ := p87229
      subst e87230
      subst e87231
      have f87240 := f87225.tr f87233 rfl
      show wp _ _ 187 118 [(6, vI z87223), (5, vI z87197), (4, vI z87181), (3, vI z87155), (1, vL (H87113 r0 15)), (0, .ref r0)] [vI z87238] _ H87228 _
      have jn87260 : ∀ (v87258 : Int) (H87259 : wq_H), WT T H87259 → wfr [(42, 8), (42, 9), (42, 10), (42, 11), (42, 12), (42, 13), (42, 14), (42, 15)] T H87228 H87259 → ((-1) ≤ v87258 ∧ v87258 ≤ 23) → (wJ H87259 r0 = 1) → (H r0 10 ≤ H87259 r0 10) → (wOV H r0 ≤ wOV H87259 r0) → (wOV H87259 r0 ≤ 1) → (wOV H87259 r0 = 1 ∨ H rp 3 ≠ 6) → wp kt 4 187 132 [(0, .ref r0), (1, vL (H87113 r0 15)), (3, vI z87155), (4, vI z87181), (5, vI z87197), (6, vI z87223)] [vI v87258] T H87259 (q_187 r0 rp T H) := by
        intro v87258 H87259 w87261 f87262 b87263 x87264 x87265 x87266 x87267 x87268
        have f87269 := f87240.tr f87262 rfl
        refine wp_of e187 c187_132 (rw_istore (pc' := 134) (z := v87258) (L' := [(7, vI v87258), (0, .ref r0), (1, vL (H87113 r0 15)), (3, vI z87155), (4, vI z87181), (5, vI z87197), (6, vI z87223)]) rfl rfl rfl ?_)
        refine wp_of e187 c187_134 (rw_aload_n (pc' := 135) (v := .ref r0) rfl rfl rfl ?_)
        refine wp_of e187 c187_135 (rw_ldcS (pc' := 137) (k := 84) rfl rfl rfl rfl ?_)
        refine wp_of e187 c187_137 (xc_V (pc' := 140) (r := r0) (as := [.ref 84]) (st := []) (lm_9_240) rfl rfl (Nat.le_of_ble_eq_true rfl) w87261 g0 sh_42 (by decide) rfl (by decide) (s_192 w87261 g0 rfl (by omega)) (fun R87270 T87271 H87272 p87273 => ?_))
        obtain ⟨e87274, w87276, f87277, z87282, e87275, b87283, p87278, p87279, p87280, p87281⟩ := p87273
        subst e87274
        subst e87275
        have f87284 := f87269.tr f87277 rfl
        show wp _ _ 187 140 [(7, vI v87258), (0, .ref r0), (1, vL (H87113 r0 15)), (3, vI z87155), (4, vI z87181), (5, vI z87197), (6, vI z87223)] [vI z87282] _ H87272 _
        refine wp_of e187 c187_140 (rw_istore (pc' := 142) (z := z87282) (L' := [(8, vI z87282), (7, vI v87258), (0, .ref r0), (1, vL (H87113 r0 15)), (3, vI z87155), (4, vI z87181), (5, vI z87197), (6, vI z87223)]) rfl rfl rfl ?_)
        refine wp_of e187 c187_142 (rw_iload (pc' := 144) (z := z87282) rfl rfl ?_)
        have jn87304 : ∀ (v87302 : Int) (H87303 : wq_H), WT T H87303 → wfr [(42, 8), (42, 9), (42, 10), (42, 11), (42, 12), (42, 13), (42, 14), (42, 15)] T H87272 H87303 → (0 ≤ v87302 ∧ v87302 ≤ 23) → (wJ H87303 r0 = 1) → (H r0 10 ≤ H87303 r0 10) → (wOV H r0 ≤ wOV H87303 r0) → (wOV H87303 r0 ≤ 1) → (wOV H87303 r0 = 1 ∨ H rp 3 ≠ 6) → wp kt 4 187 158 [(0, .ref r0), (1, vL (H87113 r0 15)), (3, vI z87155), (4, vI z87181), (5, vI z87197), (6, vI z87223), (7, vI v87258), (8, vI z87282)] [vI v87302] T H87303 (q_187 r0 rp T H) := by
          intro v87302 H87303 w87305 f87306 b87307 x87308 x87309 x87310 x87311 x87312
          have f87313 := f87284.tr f87306 rfl
          refine wp_of e187 c187_158 (rw_istore (pc' := 160) (z := v87302) (L' := [(9, vI v87302), (0, .ref r0), (1, vL (H87113 r0 15)), (3, vI z87155), (4, vI z87181), (5, vI z87197), (6, vI z87223), (7, vI v87258), (8, vI z87282)]) rfl rfl rfl ?_)
          refine wp_of e187 c187_160 (rw_iload (pc' := 162) (z := z87282) rfl rfl ?_)
          have jn87333 : ∀ (v87331 : Int) (H87332 : wq_H), WT T H87332 → wfr [(42, 8), (42, 9), (42, 10), (42, 11), (42, 12), (42, 13), (42, 14), (42, 15)] T H87303 H87332 → (0 ≤ v87331 ∧ v87331 ≤ 24) → (wJ H87332 r0 = 1) → (H r0 10 ≤ H87332 r0 10) → (wOV H r0 ≤ wOV H87332 r0) → (wOV H87332 r0 ≤ 1) → (wOV H87332 r0 = 1 ∨ H rp 3 ≠ 6) → wp kt 4 187 181 [(0, .ref r0), (1, vL (H87113 r0 15)), (3, vI z87155), (4, vI z87181), (5, vI z87197), (6, vI z87223), (7, vI v87258), (9, vI v87302)] [vI v87331] T H87332 (q_187 r0 rp T H) := by
            intro v87331 H87332 w87334 f87335 b87336 x87337 x87338 x87339 x87340 x87341
            have f87342 := f87313.tr f87335 rfl
            refine wp_of e187 c187_181 (rw_istore (pc' := 183) (z := v87331) (L' := [(10, vI v87331), (0, .ref r0), (1, vL (H87113 r0 15)), (3, vI z87155), (4, vI z87181), (5, vI z87197), (6, vI z87223), (7, vI v87258), (9, vI v87302)]) rfl rfl rfl ?_)
            refine wp_of e187 c187_183 (rw_aload_n (pc' := 184) (v := .ref r0) rfl rfl rfl ?_)
            refine wp_of e187 c187_184 (rw_ldcS (pc' := 186) (k := 85) rfl rfl rfl rfl ?_)
            refine wp_of e187 c187_186 (xc_V (pc' := 189) (r := r0) (as := [.ref 85]) (st := []) (lm_9_240) rfl rfl (Nat.le_of_ble_eq_true rfl) w87334 g0 sh_42 (by decide) rfl (by decide) (s_192 w87334 g0 rfl (by omega)) (fun R87343 T87344 H87345 p87346 => ?_))
            obtain ⟨e87347, w87349, f87350, z87355, e87348, b87356, p87351, p87352, p87353, p87354⟩ := p87346
            subst e87347
            subst e87348
            have f87357 := f87342.tr f87350 rfl
            show wp _ _ 187 189 [(10, vI v87331), (0, .ref r0), (1, vL (H87113 r0 15)), (3, vI z87155), (4, vI z87181), (5, vI z87197), (6, vI z87223), (7, vI v87258), (9, vI v87302)] [vI z87355] _ H87345 _
            refine wp_of e187 c187_189 (rw_istore (pc' := 191) (z := z87355) (L' := [(11, vI z87355), (10, vI v87331), (0, .ref r0), (1, vL (H87113 r0 15)), (3, vI z87155), (4, vI z87181), (5, vI z87197), (6, vI z87223), (7, vI v87258), (9, vI v87302)]) rfl rfl rfl ?_)
            refine wp_of e187 c187_191 (rw_aload_n (pc' := 192) (v := .ref r0) rfl rfl rfl ?_)
            refine wp_of e187 c187_192 (xg_I (pc' := 195) lf_9_75 w87349 g0 sh_42 (by decide) (by decide) ty_42_9 rfl rfl (fun b87358 b87359 => ?_))
            have k87360 := wOV_e (H := H87345) (m := r0)
            refine wp_of e187 c187_195 (rw_iconst (pc' := 196) rfl ?_)
            refine wp_of e187 c187_196 (rw_icmp_ne (p1 := 200) (p2 := 199) (by decide) rfl ⟨by omega, by omega⟩ ⟨by omega, by omega⟩ (fun c87361 => ?_) (fun c87361 => ?_))
            · refine wp_of e187 c187_200 (rw_aload_n (pc' := 201) (v := .ref r0) rfl rfl rfl ?_)
              have k87362 : H87345 r0 4 = H87073 r0 4 := ((f87350 r0 4 _ g0 rfl).trans ((f87335 r0 4 _ g0 rfl).trans ((f87306 r0 4 _ g0 rfl).trans ((f87277 r0 4 _ g0 rfl).trans ((f87262 r0 4 _ g0 rfl).trans ((f87233 r0 4 _ g0 rfl).trans ((f87217 r0 4 _ g0 rfl).trans ((f87191 r0 4 _ g0 rfl).trans ((f87175 r0 4 _ g0 rfl).trans ((f87149 r0 4 _ g0 rfl).trans ((f87134 r0 4 _ g0 rfl).trans (f87116 r0 4 _ g0 rfl))))))))))))
              have q87363 : H87345 r0 4 = (rp : Int) := k87362.trans q87085
              refine wp_of e187 c187_201 (xg_K (pc' := 204) lf_9_166 w87349 g0 sh_42 (by decide) (by decide) rfl q87363 rfl ?_)
              have k87364 : H87345 rp 3 = H rp 3 := ((f87350 rp 3 _ grp rfl).trans ((f87335 rp 3 _ grp rfl).trans ((f87306 rp 3 _ grp rfl).trans ((f87277 rp 3 _ grp rfl).trans ((f87262 rp 3 _ grp rfl).trans ((f87233 rp 3 _ grp rfl).trans ((f87217 rp 3 _ grp rfl).trans ((f87191 rp 3 _ grp rfl).trans ((f87175 rp 3 _ grp rfl).trans ((f87149 rp 3 _ grp rfl).trans ((f87134 rp 3 _ grp rfl).trans ((f87116 rp 3 _ grp rfl).trans ((f87076 rp 3 _ grp rfl).trans (f87041 rp 3 _ grp rfl))))))))))))))
              refine wp_of e187 c187_204 (xg_I (pc' := 207) lf_9_188 w87349 grp sh_54 (by decide) (by decide) ty_54_3 rfl rfl (fun b87365 b87366 => ?_))
              refine wp_of e187 c187_207 (rw_istore (pc' := 209) (z := H87345 rp 3) (L' := [(12, vI (H87345 rp 3)), (11, vI z87355), (10, vI v87331), (0, .ref r0), (1, vL (H87113 r0 15)), (3, vI z87155), (4, vI z87181), (5, vI z87197), (6, vI z87223), (7, vI v87258), (9, vI v87302)]) rfl rfl rfl ?_)
              refine wp_of e187 c187_209 (rw_aload_n (pc' := 210) (v := .ref r0) rfl rfl rfl ?_)
              refine wp_of e187 c187_210 (xg_K (pc' := 213) lf_9_166 w87349 g0 sh_42 (by decide) (by decide) rfl q87363 rfl ?_)
              refine wp_of e187 c187_213 (xg_R (pc' := 216) lf_9_243 w87349 grp sh_54 (by decide) (by decide) ty_54_9 rfl rfl (fun r87367 q87368 g87369 => ?_))
              refine wp_of e187 c187_216 (rw_iload (pc' := 218) (z := H87345 rp 3) rfl rfl ?_)
              refine wp_of e187 c187_218 (rw_lload_n (pc' := 219) (z := H87113 r0 15) rfl rfl ?_)
              refine wp_of e187 c187_219 (xs_L (pc' := 220) w87349 g87369 (by decide) sh_55 (by decide) (ty_55 _) (by omega) (by omega) ⟨by omega, by omega⟩ (by omega) (by omega) rfl (fun H87370 e87371 w87372 => ?_))
              have f87373 := f87357.put' e87371 g87369 rfl
              refine wp_of e187 c187_220 (rw_aload_n (pc' := 221) (v := .ref r0) rfl rfl rfl ?_)
              have k87374 : H87370 r0 4 = H87345 r0 4 := (wq_u_t e87371 g87369 g0 rfl 4)
              have q87375 : H87370 r0 4 = (rp : Int) := k87374.trans q87363
              refine wp_of e187 c187_221 (xg_K (pc' := 224) lf_9_166 w87372 g0 sh_42 (by decide) (by decide) rfl q87375 rfl ?_)
              refine wp_of e187 c187_224 (xg_R (pc' := 227) lf_9_247 w87372 grp sh_54 (by decide) (by decide) ty_54_10 rfl rfl (fun r87376 q87377 g87378 => ?_))
              refine wp_of e187 c187_227 (rw_iload (pc' := 229) (z := H87345 rp 3) rfl rfl ?_)
              refine wp_of e187 c187_229 (rw_iload_n (pc' := 230) (z := z87155) rfl rfl ?_)
              refine wp_of e187 c187_230 (xs_I (pc' := 231) w87372 g87378 (by decide) sh_56 (by decide) (ty_56 _) (by omega) (by omega) ⟨by omega, by omega⟩ (by omega) (by omega) rfl (fun H87379 e87380 w87381 => ?_))
              have f87382 := f87373.put' e87380 g87378 rfl
              refine wp_of e187 c187_231 (rw_aload_n (pc' := 232) (v := .ref r0) rfl rfl rfl ?_)
              have k87383 : H87379 r0 4 = H87370 r0 4 := (wq_u_t e87380 g87378 g0 rfl 4)
              have q87384 : H87379 r0 4 = (rp : Int) := k87383.trans q87375
              refine wp_of e187 c187_232 (xg_K (pc' := 235) lf_9_166 w87381 g0 sh_42 (by decide) (by decide) rfl q87384 rfl ?_)
              refine wp_of e187 c187_235 (xg_R (pc' := 238) lf_9_250 w87381 grp sh_54 (by decide) (by decide) ty_54_11 rfl rfl (fun r87385 q87386 g87387 => ?_))
              refine wp_of e187 c187_238 (rw_iload (pc' := 240) (z := H87345 rp 3) rfl rfl ?_)
              refine wp_of e187 c187_240 (rw_iload (pc' := 242) (z := z87181) rfl rfl ?_)
              refine wp_of e187 c187_242 (xs_I (pc' := 243) w87381 g87387 (by decide) sh_57 (by decide) (ty_57 _) (by omega) (by omega) ⟨by omega, by omega⟩ (by omega) (by omega) rfl (fun H87388 e87389 w87390 => ?_))
              have f87391 := f87382.put' e87389 g87387 rfl
              refine wp_of e187 c187_243 (rw_aload_n (pc' := 244) (v := .ref r0) rfl rfl rfl ?_)
              have k87392 : H87388 r0 4 = H87379 r0 4 := (wq_u_t e87389 g87387 g0 rfl 4)
              have q87393 : H87388 r0 4 = (rp : Int) := k87392.trans q87384
              refine wp_of e187 c187_244 (xg_K (pc' := 247) lf_9_166 w87390 g0 sh_42 (by decide) (by decide) rfl q87393 rfl ?_)
              refine wp_of e187 c187_247 (xg_R (pc' := 250) lf_9_253 w87390 grp sh_54 (by decide) (by decide) ty_54_12 rfl rfl (fun r87394 q87395 g87396 => ?_))
              refine wp_of e187 c187_250 (rw_iload (pc' := 252) (z := H87345 rp 3) rfl rfl ?_)
              refine wp_of e187 c187_252 (rw_iload (pc' := 254) (z := z87197) rfl rfl ?_)
              refine wp_of e187 c187_254 (xs_I (pc' := 255) w87390 g87396 (by decide) sh_58 (by decide) (ty_58 _) (by omega) (by omega) ⟨by omega, by omega⟩ (by omega) (by omega) rfl (fun H87397 e87398 w87399 => ?_))
              have f87400 := f87391.put' e87398 g87396 rfl
              refine wp_of e187 c187_255 (rw_aload_n (pc' := 256) (v := .ref r0) rfl rfl rfl ?_)
              have k87401 : H87397 r0 4 = H87388 r0 4 := (wq_u_t e87398 g87396 g0 rfl 4)
              have q87402 : H87397 r0 4 = (rp : Int) := k87401.trans q87393
              refine wp_of e187 c187_256 (xg_K (pc' := 259) lf_9_166 w87399 g0 sh_42 (by decide) (by decide) rfl q87402 rfl ?_)
              refine wp_of e187 c187_259 (xg_R (pc' := 262) lf_9_256 w87399 grp sh_54 (by decide) (by decide) ty_54_13 rfl rfl (fun r87403 q87404 g87405 => ?_))
              refine wp_of e187 c187_262 (rw_iload (pc' := 264) (z := H87345 rp 3) rfl rfl ?_)
              refine wp_of e187 c187_264 (rw_iload (pc' := 266) (z := z87223) rfl rfl ?_)
              refine wp_of e187 c187_266 (xs_I (pc' := 267) w87399 g87405 (by decide) sh_59 (by decide) (ty_59 _) (by omega) (by omega) ⟨by omega, by omega⟩ (by omega) (by omega) rfl (fun H87406 e87407 w87408 => ?_))
              have f87409 := f87400.put' e87407 g87405 rfl
              refine wp_of e187 c187_267 (rw_aload_n (pc' := 268) (v := .ref r0) rfl rfl rfl ?_)
              have k87410 : H87406 r0 4 = H87397 r0 4 := (wq_u_t e87407 g87405 g0 rfl 4)
              have q87411 : H87406 r0 4 = (rp : Int) := k87410.trans q87402
              refine wp_of e187 c187_268 (xg_K (pc' := 271) lf_9_166 w87408 g0 sh_42 (by decide) (by decide) rfl q87411 rfl ?_)
              refine wp_of e187 c187_271 (xg_R (pc' := 274) lf_9_259 w87408 grp sh_54 (by decide) (by decide) ty_54_14 rfl rfl (fun r87412 q87413 g87414 => ?_))
              refine wp_of e187 c187_274 (rw_iload (pc' := 276) (z := H87345 rp 3) rfl rfl ?_)
              refine wp_of e187 c187_276 (rw_iload (pc' := 278) (z := v87258) rfl rfl ?_)
              refine wp_of e187 c187_278 (xs_I (pc' := 279) w87408 g87414 (by decide) sh_60 (by decide) (ty_60 _) (by omega) (by omega) ⟨by omega, by omega⟩ (by omega) (by omega) rfl (fun H87415 e87416 w87417 => ?_))
              have f87418 := f87409.put' e87416 g87414 rfl
              refine wp_of e187 c187_279 (rw_aload_n (pc' := 280) (v := .ref r0) rfl rfl rfl ?_)
              have k87419 : H87415 r0 4 = H87406 r0 4 := (wq_u_t e87416 g87414 g0 rfl 4)
              have q87420 : H87415 r0 4 = (rp : Int) := k87419.trans q87411
              refine wp_of e187 c187_280 (xg_K (pc' := 283) lf_9_166 w87417 g0 sh_42 (by decide) (by decide) rfl q87420 rfl ?_)
              refine wp_of e187 c187_283 (xg_R (pc' := 286) lf_9_261 w87417 grp sh_54 (by decide) (by decide) ty_54_15 rfl rfl (fun r87421 q87422 g87423 => ?_))
              refine wp_of e187 c187_286 (rw_iload (pc' := 288) (z := H87345 rp 3) rfl rfl ?_)
              refine wp_of e187 c187_288 (rw_iload (pc' := 290) (z := v87302) rfl rfl ?_)
              refine wp_of e187 c187_290 (xs_I (pc' := 291) w87417 g87423 (by decide) sh_61 (by decide) (ty_61 _) (by omega) (by omega) ⟨by omega, by omega⟩ (by omega) (by omega) rfl (fun H87424 e87425 w87426 => ?_))
              have f87427 := f87418.put' e87425 g87423 rfl
              refine wp_of e187 c187_291 (rw_aload_n (pc' := 292) (v := .ref r0) rfl rfl rfl ?_)
              have k87428 : H87424 r0 4 = H87415 r0 4 := (wq_u_t e87425 g87423 g0 rfl 4)
              have q87429 : H87424 r0 4 = (rp : Int) := k87428.trans q87420
              refine wp_of e187 c187_292 (xg_K (pc' := 295) lf_9_166 w87426 g0 sh_42 (by decide) (by decide) rfl q87429 rfl ?_)
              refine wp_of e187 c187_295 (xg_R (pc' := 298) lf_9_264 w87426 grp sh_54 (by decide) (by decide) ty_54_16 rfl rfl (fun r87430 q87431 g87432 => ?_))
              refine wp_of e187 c187_298 (rw_iload (pc' := 300) (z := H87345 rp 3) rfl rfl ?_)
              refine wp_of e187 c187_300 (rw_iload (pc' := 302) (z := v87331) rfl rfl ?_)
              refine wp_of e187 c187_302 (xs_I (pc' := 303) w87426 g87432 (by decide) sh_62 (by decide) (ty_62 _) (by omega) (by omega) ⟨by omega, by omega⟩ (by omega) (by omega) rfl (fun H87433 e87434 w87435 => ?_))
              have f87436 := f87427.put' e87434 g87432 rfl
              refine wp_of e187 c187_303 (rw_aload_n (pc' := 304) (v := .ref r0) rfl rfl rfl ?_)
              have k87437 : H87433 r0 4 = H87424 r0 4 := (wq_u_t e87434 g87432 g0 rfl 4)
              have q87438 : H87433 r0 4 = (rp : Int) := k87437.trans q87429
              refine wp_of e187 c187_304 (xg_K (pc' := 307) lf_9_166 w87435 g0 sh_42 (by decide) (by decide) rfl q87438 rfl ?_)
              refine wp_of e187 c187_307 (xg_R (pc' := 310) lf_9_267 w87435 grp sh_54 (by decide) (by decide) ty_54_17 rfl rfl (fun r87439 q87440 g87441 => ?_))
              refine wp_of e187 c187_310 (rw_iload (pc' := 312) (z := H87345 rp 3) rfl rfl ?_)
              refine wp_of e187 c187_312 (rw_iload (pc' := 314) (z := z87355) rfl rfl ?_)
              refine wp_of e187 c187_314 (xs_Z (pc' := 315) w87435 g87441 (by decide) sh_63 (by decide) (ty_63 _) (by omega) (by omega) ⟨by omega, by omega⟩ (by omega) (by omega) rfl (fun H87442 e87443 w87444 => ?_))
              have f87445 := f87436.put' e87443 g87441 rfl
              refine wp_of e187 c187_315 (rw_aload_n (pc' := 316) (v := .ref r0) rfl rfl rfl ?_)
              have k87446 : H87442 r0 4 = H87433 r0 4 := (wq_u_t e87443 g87441 g0 rfl 4)
              have q87447 : H87442 r0 4 = (rp : Int) := k87446.trans q87438
              refine wp_of e187 c187_316 (xg_K (pc' := 319) lf_9_166 w87444 g0 sh_42 (by decide) (by decide) rfl q87447 rfl ?_)
              refine wp_of e187 c187_319 (rw_dup (pc' := 320) rfl rfl ?_)
              have k87448 : H87442 rp 3 = H87345 rp 3 := ((wq_u_t e87443 g87441 grp rfl 3).trans ((wq_u_t e87434 g87432 grp rfl 3).trans ((wq_u_t e87425 g87423 grp rfl 3).trans ((wq_u_t e87416 g87414 grp rfl 3).trans ((wq_u_t e87407 g87405 grp rfl 3).trans ((wq_u_t e87398 g87396 grp rfl 3).trans ((wq_u_t e87389 g87387 grp rfl 3).trans ((wq_u_t e87380 g87378 grp rfl 3).trans (wq_u_t e87371 g87369 grp rfl 3)))))))))
              refine wp_of e187 c187_320 (xg_I (pc' := 323) lf_9_188 w87444 grp sh_54 (by decide) (by decide) ty_54_3 rfl rfl (fun b87449 b87450 => ?_))
              refine wp_of e187 c187_323 (rw_iconst (pc' := 324) rfl ?_)
              refine wp_of e187 c187_324 (rw_iadd (pc' := 325) rfl ?_)
              refine wp_of e187 c187_325 (xp_I (pc' := 328) lf_9_188 w87444 grp sh_54 (by decide) (by decide) ty_54_3 rfl rfl (by omega) (by omega) ⟨by omega, by omega⟩ rfl (fun H87451 e87452 w87453 => ?_))
              have f87454 := f87445.put' e87452 grp rfl
              have k87455 : H87451 rp 3 = (H87442 rp 3) + 1 := wq_u_s e87452
              have k87456 : H87451 r0 9 = H87345 r0 9 := ((wq_u_t e87452 grp g0 rfl 9).trans ((wq_u_t e87443 g87441 g0 rfl 9).trans ((wq_u_t e87434 g87432 g0 rfl 9).trans ((wq_u_t e87425 g87423 g0 rfl 9).trans ((wq_u_t e87416 g87414 g0 rfl 9).trans ((wq_u_t e87407 g87405 g0 rfl 9).trans ((wq_u_t e87398 g87396 g0 rfl 9).trans ((wq_u_t e87389 g87387 g0 rfl 9).trans ((wq_u_t e87380 g87378 g0 rfl 9).trans (wq_u_t e87371 g87369 g0 rfl 9))))))))))
              have k87457 : H87451 r0 10 = H87345 r0 10 := ((wq_u_t e87452 grp g0 rfl 10).trans ((wq_u_t e87443 g87441 g0 rfl 10).trans ((wq_u_t e87434 g87432 g0 rfl 10).trans ((wq_u_t e87425 g87423 g0 rfl 10).trans ((wq_u_t e87416 g87414 g0 rfl 10).trans ((wq_u_t e87407 g87405 g0 rfl 10).trans ((wq_u_t e87398 g87396 g0 rfl 10).trans ((wq_u_t e87389 g87387 g0 rfl 10).trans ((wq_u_t e87380 g87378 g0 rfl 10).trans (wq_u_t e87371 g87369 g0 rfl 10))))))))))
              have k87458 : wOV H87451 r0 = wOV H87345 r0 := ((wOV_fr w87444 g0 ((wfr.rf (l := [(54, 3)])).put' e87452 grp rfl) rfl).trans ((wOV_fr w87435 g0 ((wfr.rf (l := [(63, 999)])).put' e87443 g87441 rfl) rfl).trans ((wOV_fr w87426 g0 ((wfr.rf (l := [(62, 999)])).put' e87434 g87432 rfl) rfl).trans ((wOV_fr w87417 g0 ((wfr.rf (l := [(61, 999)])).put' e87425 g87423 rfl) rfl).trans ((wOV_fr w87408 g0 ((wfr.rf (l := [(60, 999)])).put' e87416 g87414 rfl) rfl).trans ((wOV_fr w87399 g0 ((wfr.rf (l := [(59, 999)])).put' e87407 g87405 rfl) rfl).trans ((wOV_fr w87390 g0 ((wfr.rf (l := [(58, 999)])).put' e87398 g87396 rfl) rfl).trans ((wOV_fr w87381 g0 ((wfr.rf (l := [(57, 999)])).put' e87389 g87387 rfl) rfl).trans ((wOV_fr w87372 g0 ((wfr.rf (l := [(56, 999)])).put' e87380 g87378 rfl) rfl).trans (wOV_fr w87349 g0 ((wfr.rf (l := [(55, 999)])).put' e87371 g87369 rfl) rfl))))))))))
              have k87459 : wJ H87451 r0 = wJ H87345 r0 := ((wJ_fr w87444 g0 ((wfr.rf (l := [(54, 3)])).put' e87452 grp rfl) rfl).trans ((wJ_fr w87435 g0 ((wfr.rf (l := [(63, 999)])).put' e87443 g87441 rfl) rfl).trans ((wJ_fr w87426 g0 ((wfr.rf (l := [(62, 999)])).put' e87434 g87432 rfl) rfl).trans ((wJ_fr w87417 g0 ((wfr.rf (l := [(61, 999)])).put' e87425 g87423 rfl) rfl).trans ((wJ_fr w87408 g0 ((wfr.rf (l := [(60, 999)])).put' e87416 g87414 rfl) rfl).trans ((wJ_fr w87399 g0 ((wfr.rf (l := [(59, 999)])).put' e87407 g87405 rfl) rfl).trans ((wJ_fr w87390 g0 ((wfr.rf (l := [(58, 999)])).put' e87398 g87396 rfl) rfl).trans ((wJ_fr w87381 g0 ((wfr.rf (l := [(57, 999)])).put' e87389 g87387 rfl) rfl).trans ((wJ_fr w87372 g0 ((wfr.rf (l := [(56, 999)])).put' e87380 g87378 rfl) rfl).trans (wJ_fr w87349 g0 ((wfr.rf (l := [(55, 999)])).put' e87371 g87369 rfl) rfl))))))))))
              have k87461 : H87451 rp 10 = H87370 rp 10 := ((wq_u_j e87452 rfl).trans ((wq_u_t e87443 g87441 grp rfl 10).trans ((wq_u_t e87434 g87432 grp rfl 10).trans ((wq_u_t e87425 g87423 grp rfl 10).trans ((wq_u_t e87416 g87414 grp rfl 10).trans ((wq_u_t e87407 g87405 grp rfl 10).trans ((wq_u_t e87398 g87396 grp rfl 10).trans ((wq_u_t e87389 g87387 grp rfl 10).trans (wq_u_t e87380 g87378 grp rfl 10)))))))))
              have q87462 : H87451 rp 10 = (r87376 : Int) := k87461.trans q87377
              have k87463 : H87451 rp 11 = H87379 rp 11 := ((wq_u_j e87452 rfl).trans ((wq_u_t e87443 g87441 grp rfl 11).trans ((wq_u_t e87434 g87432 grp rfl 11).trans ((wq_u_t e87425 g87423 grp rfl 11).trans ((wq_u_t e87416 g87414 grp rfl 11).trans ((wq_u_t e87407 g87405 grp rfl 11).trans ((wq_u_t e87398 g87396 grp rfl 11).trans (wq_u_t e87389 g87387 grp rfl 11))))))))
              have q87464 : H87451 rp 11 = (r87385 : Int) := k87463.trans q87386
              have k87465 : H87451 rp 12 = H87388 rp 12 := ((wq_u_j e87452 rfl).trans ((wq_u_t e87443 g87441 grp rfl 12).trans ((wq_u_t e87434 g87432 grp rfl 12).trans ((wq_u_t e87425 g87423 grp rfl 12).trans ((wq_u_t e87416 g87414 grp rfl 12).trans ((wq_u_t e87407 g87405 grp rfl 12).trans (wq_u_t e87398 g87396 grp rfl 12)))))))
              have q87466 : H87451 rp 12 = (r87394 : Int) := k87465.trans q87395
              have k87467 : H87451 rp 13 = H87397 rp 13 := ((wq_u_j e87452 rfl).trans ((wq_u_t e87443 g87441 grp rfl 13).trans ((wq_u_t e87434 g87432 grp rfl 13).trans ((wq_u_t e87425 g87423 grp rfl 13).trans ((wq_u_t e87416 g87414 grp rfl 13).trans (wq_u_t e87407 g87405 grp rfl 13))))))
              have q87468 : H87451 rp 13 = (r87403 : Int) := k87467.trans q87404
              have k87460 : wPI H87451 rp = 1 := wPI_set ((((wPI_fr w87349 grp ((wfr.rf (l := [(55, 999)])).put' e87371 g87369 rfl) rfl).trans ((wPI_fr w87334 grp f87350 rfl).trans ((wPI_fr w87305 grp f87335 rfl).trans ((wPI_fr w87276 grp f87306 rfl).trans ((wPI_fr w87261 grp f87277 rfl).trans ((wPI_fr w87232 grp f87262 rfl).trans ((wPI_fr w87216 grp f87233 rfl).trans ((wPI_fr w87190 grp f87217 rfl).trans ((wPI_fr w87174 grp f87191 rfl).trans ((wPI_fr w87148 grp f87175 rfl).trans ((wPI_fr w87133 grp f87149 rfl).trans ((wPI_fr w87115 grp f87134 rfl).trans ((wPI_fr w87075 grp f87116 rfl).trans ((wPI_fr w87040 grp f87076 rfl).trans (wPI_fr hW grp f87041 rfl)))))))))))))))).trans (by omega)) ((((wq_u_j e87452 rfl).trans ((wq_u_t e87443 g87441 grp rfl 10).trans ((wq_u_t e87434 g87432 grp rfl 10).trans ((wq_u_t e87425 g87423 grp rfl 10).trans ((wq_u_t e87416 g87414 grp rfl 10).trans ((wq_u_t e87407 g87405 grp rfl 10).trans ((wq_u_t e87398 g87396 grp rfl 10).trans ((wq_u_t e87389 g87387 grp rfl 10).trans (wq_u_t e87380 g87378 grp rfl 10)))))))))).symm.trans q87462) ((((wq_u_j e87452 rfl).trans ((wq_u_t e87443 g87441 grp rfl 11).trans ((wq_u_t e87434 g87432 grp rfl 11).trans ((wq_u_t e87425 g87423 grp rfl 11).trans ((wq_u_t e87416 g87414 grp rfl 11).trans ((wq_u_t e87407 g87405 grp rfl 11).trans ((wq_u_t e87398 g87396 grp rfl 11).trans ((wq_u_t e87389 g87387 grp rfl 11).trans (wq_u_t e87380 g87378 grp rfl 11)))))))))).symm.trans q87464) ((((wq_u_j e87452 rfl).trans ((wq_u_t e87443 g87441 grp rfl 12).trans ((wq_u_t e87434 g87432 grp rfl 12).trans ((wq_u_t e87425 g87423 grp rfl 12).trans ((wq_u_t e87416 g87414 grp rfl 12).trans ((wq_u_t e87407 g87405 grp rfl 12).trans ((wq_u_t e87398 g87396 grp rfl 12).trans ((wq_u_t e87389 g87387 grp rfl 12).trans (wq_u_t e87380 g87378 grp rfl 12)))))))))).symm.trans q87466) ((((wq_u_j e87452 rfl).trans ((wq_u_t e87443 g87441 grp rfl 13).trans ((wq_u_t e87434 g87432 grp rfl 13).trans ((wq_u_t e87425 g87423 grp rfl 13).trans ((wq_u_t e87416 g87414 grp rfl 13).trans ((wq_u_t e87407 g87405 grp rfl 13).trans ((wq_u_t e87398 g87396 grp rfl 13).trans ((wq_u_t e87389 g87387 grp rfl 13).trans (wq_u_t e87380 g87378 grp rfl 13)))))))))).symm.trans q87468) q87462 q87464 q87466 q87468 (fun j hj => (((wq_u_t e87452 grp g87378 rfl (j)).trans ((wq_u_t e87443 g87441 g87378 rfl (j)).trans ((wq_u_t e87434 g87432 g87378 rfl (j)).trans ((wq_u_t e87425 g87423 g87378 rfl (j)).trans ((wq_u_t e87416 g87414 g87378 rfl (j)).trans ((wq_u_t e87407 g87405 g87378 rfl (j)).trans ((wq_u_t e87398 g87396 g87378 rfl (j)).trans (wq_u_t e87389 g87387 g87378 rfl (j)))))))))).trans ((wq_u_i e87380 hj).trans (rfl))) ((((wq_u_t e87452 grp g87378 rfl ((H87345 rp 3).toNat)).trans ((wq_u_t e87443 g87441 g87378 rfl ((H87345 rp 3).toNat)).trans ((wq_u_t e87434 g87432 g87378 rfl ((H87345 rp 3).toNat)).trans ((wq_u_t e87425 g87423 g87378 rfl ((H87345 rp 3).toNat)).trans ((wq_u_t e87416 g87414 g87378 rfl ((H87345 rp 3).toNat)).trans ((wq_u_t e87407 g87405 g87378 rfl ((H87345 rp 3).toNat)).trans ((wq_u_t e87398 g87396 g87378 rfl ((H87345 rp 3).toNat)).trans (wq_u_t e87389 g87387 g87378 rfl ((H87345 rp 3).toNat)))))))))).trans (wq_u_s e87380)) (fun j hj => (((wq_u_t e87452 grp g87387 rfl (j)).trans ((wq_u_t e87443 g87441 g87387 rfl (j)).trans ((wq_u_t e87434 g87432 g87387 rfl (j)).trans ((wq_u_t e87425 g87423 g87387 rfl (j)).trans ((wq_u_t e87416 g87414 g87387 rfl (j)).trans ((wq_u_t e87407 g87405 g87387 rfl (j)).trans (wq_u_t e87398 g87396 g87387 rfl (j))))))))).trans ((wq_u_i e87389 hj).trans ((wq_u_t e87380 g87378 g87387 rfl (j))))) ((((wq_u_t e87452 grp g87387 rfl ((H87345 rp 3).toNat)).trans ((wq_u_t e87443 g87441 g87387 rfl ((H87345 rp 3).toNat)).trans ((wq_u_t e87434 g87432 g87387 rfl ((H87345 rp 3).toNat)).trans ((wq_u_t e87425 g87423 g87387 rfl ((H87345 rp 3).toNat)).trans ((wq_u_t e87416 g87414 g87387 rfl ((H87345 rp 3).toNat)).trans ((wq_u_t e87407 g87405 g87387 rfl ((H87345 rp 3).toNat)).trans (wq_u_t e87398 g87396 g87387 rfl ((H87345 rp 3).toNat))))))))).trans (wq_u_s e87389)) (fun j hj => (((wq_u_t e87452 grp g87396 rfl (j)).trans ((wq_u_t e87443 g87441 g87396 rfl (j)).trans ((wq_u_t e87434 g87432 g87396 rfl (j)).trans ((wq_u_t e87425 g87423 g87396 rfl (j)).trans ((wq_u_t e87416 g87414 g87396 rfl (j)).trans (wq_u_t e87407 g87405 g87396 rfl (j)))))))).trans ((wq_u_i e87398 hj).trans (((wq_u_t e87389 g87387 g87396 rfl (j)).trans (wq_u_t e87380 g87378 g87396 rfl (j)))))) ((((wq_u_t e87452 grp g87396 rfl ((H87345 rp 3).toNat)).trans ((wq_u_t e87443 g87441 g87396 rfl ((H87345 rp 3).toNat)).trans ((wq_u_t e87434 g87432 g87396 rfl ((H87345 rp 3).toNat)).trans ((wq_u_t e87425 g87423 g87396 rfl ((H87345 rp 3).toNat)).trans ((wq_u_t e87416 g87414 g87396 rfl ((H87345 rp 3).toNat)).trans (wq_u_t e87407 g87405 g87396 rfl ((H87345 rp 3).toNat)))))))).trans (wq_u_s e87398)) (fun j hj => (((wq_u_t e87452 grp g87405 rfl (j)).trans ((wq_u_t e87443 g87441 g87405 rfl (j)).trans ((wq_u_t e87434 g87432 g87405 rfl (j)).trans ((wq_u_t e87425 g87423 g87405 rfl (j)).trans (wq_u_t e87416 g87414 g87405 rfl (j))))))).trans ((wq_u_i e87407 hj).trans (((wq_u_t e87398 g87396 g87405 rfl (j)).trans ((wq_u_t e87389 g87387 g87405 rfl (j)).trans (wq_u_t e87380 g87378 g87405 rfl (j))))))) ((((wq_u_t e87452 grp g87405 rfl ((H87345 rp 3).toNat)).trans ((wq_u_t e87443 g87441 g87405 rfl ((H87345 rp 3).toNat)).trans ((wq_u_t e87434 g87432 g87405 rfl ((H87345 rp 3).toNat)).trans ((wq_u_t e87425 g87423 g87405 rfl ((H87345 rp 3).toNat)).trans (wq_u_t e87416 g87414 g87405 rfl ((H87345 rp 3).toNat))))))).trans (wq_u_s e87407)) (by omega) (by omega)
              exact wp_return e187 c187_328 rfl ⟨rfl, w87453, f87454, rfl, by omega, by omega, by omega, by omega, by omega, fun a ha ga => ((wq_u_a e87452 ha 3).trans ((wq_u_t e87443 g87441 ga rfl 3).trans ((wq_u_t e87434 g87432 ga rfl 3).trans ((wq_u_t e87425 g87423 ga rfl 3).trans ((wq_u_t e87416 g87414 ga rfl 3).trans ((wq_u_t e87407 g87405 ga rfl 3).trans ((wq_u_t e87398 g87396 ga rfl 3).trans ((wq_u_t e87389 g87387 ga rfl 3).trans ((wq_u_t e87380 g87378 ga rfl 3).trans ((wq_u_t e87371 g87369 ga rfl 3).trans ((f87350 a 3 _ ga rfl).trans ((f87335 a 3 _ ga rfl).trans ((f87306 a 3 _ ga rfl).trans ((f87277 a 3 _ ga rfl).trans ((f87262 a 3 _ ga rfl).trans ((f87233 a 3 _ ga rfl).trans ((f87217 a 3 _ ga rfl).trans ((f87191 a 3 _ ga rfl).trans ((f87175 a 3 _ ga rfl).trans ((f87149 a 3 _ ga rfl).trans ((f87134 a 3 _ ga rfl).trans ((f87116 a 3 _ ga rfl).trans ((f87076 a 3 _ ga rfl).trans (f87041 a 3 _ ga rfl))))))))))))))))))))))))⟩
            · have k87469 : wPI H87345 rp = wPI H rp := ((wPI_fr w87334 grp f87350 rfl).trans ((wPI_fr w87305 grp f87335 rfl).trans ((wPI_fr w87276 grp f87306 rfl).trans ((wPI_fr w87261 grp f87277 rfl).trans ((wPI_fr w87232 grp f87262 rfl).trans ((wPI_fr w87216 grp f87233 rfl).trans ((wPI_fr w87190 grp f87217 rfl).trans ((wPI_fr w87174 grp f87191 rfl).trans ((wPI_fr w87148 grp f87175 rfl).trans ((wPI_fr w87133 grp f87149 rfl).trans ((wPI_fr w87115 grp f87134 rfl).trans ((wPI_fr w87075 grp f87116 rfl).trans ((wPI_fr w87040 grp f87076 rfl).trans (wPI_fr hW grp f87041 rfl))))))))))))))
              exact wp_return e187 c187_199 rfl ⟨rfl, w87349, f87357, rfl, by omega, by omega, by omega, by omega, by omega, fun a ha ga => ((f87350 a 3 _ ga rfl).trans ((f87335 a 3 _ ga rfl).trans ((f87306 a 3 _ ga rfl).trans ((f87277 a 3 _ ga rfl).trans ((f87262 a 3 _ ga rfl).trans ((f87233 a 3 _ ga rfl).trans ((f87217 a 3 _ ga rfl).trans ((f87191 a 3 _ ga rfl).trans ((f87175 a 3 _ ga rfl).trans ((f87149 a 3 _ ga rfl).trans ((f87134 a 3 _ ga rfl).trans ((f87116 a 3 _ ga rfl).trans ((f87076 a 3 _ ga rfl).trans (f87041 a 3 _ ga rfl))))))))))))))⟩
          have f87470 : wfr [(42, 8), (42, 9), (42, 10), (42, 11), (42, 12), (42, 13), (42, 14), (42, 15)] T H87303 H87303 := wfr.rf
          refine wp_of e187 c187_162 (rw_if_eq (p1 := 180) (p2 := 165) (by decide) rfl ⟨by omega, by omega⟩ (fun c87471 => ?_) (fun c87471 => ?_))
          · refine wp_of e187 c187_180 (rw_iconst (pc' := 181) rfl ?_)
            exact wp_lc (ks := [9, 0, 1, 3, 4, 5, 6, 7, 8]) (wl_c rfl (wl_c rfl (wl_c rfl (wl_c rfl (wl_c rfl (wl_c rfl (wl_c rfl (wl_c rfl wl_n)))))))) rfl (by decide) (jn87333 0 H87303 w87305 f87470 ⟨by omega, by omega⟩ (by omega) (by omega) (by omega) (by omega) (by omega))
          · refine wp_of e187 c187_165 (rw_aload_n (pc' := 166) (v := .ref r0) rfl rfl rfl ?_)
            refine wp_of e187 c187_166 (rw_ldcS (pc' := 168) (k := 87) rfl rfl rfl rfl ?_)
            refine wp_of e187 c187_168 (rw_iload (pc' := 170) (z := v87302) rfl rfl ?_)
            refine wp_of e187 c187_170 (rw_iconst (pc' := 171) rfl ?_)
            refine wp_of e187 c187_171 (rw_iadd (pc' := 172) rfl ?_)
            refine wp_of e187 c187_172 (rw_bipush (pc' := 174) (z := 24) rfl (by decide) ?_)
            refine wp_of e187 c187_174 (xc_V (pc' := 177) (r := r0) (as := [.ref 87, vI (v87302 + 1), vI 24]) (st := []) (lm_9_216) rfl rfl (Nat.le_of_ble_eq_true rfl) w87305 g0 sh_42 (by decide) rfl (by decide) (s_182 w87305 g0 rfl ⟨by omega, by omega⟩ ⟨by omega, by omega⟩ (by omega)) (fun R87472 T87473 H87474 p87475 => ?_))
            obtain ⟨e87476, w87478, f87479, z87485, e87477, b87486, p87480, p87481, p87482, p87483, p87484⟩ := p87475
            subst e87476
            subst e87477
            have f87487 := f87313.tr f87479 rfl
            have f87488 := f87470.tr f87479 rfl
            show wp _ _ 187 177 [(9, vI v87302), (0, .ref r0), (1, vL (H87113 r0 15)), (3, vI z87155), (4, vI z87181), (5, vI z87197), (6, vI z87223), (7, vI v87258), (8, vI z87282)] [vI z87485] _ H87474 _
            refine wp_of e187 c187_177 (rw_goto (p1 := 181) (by decide) ?_)
            exact wp_lc (ks := [9, 0, 1, 3, 4, 5, 6, 7, 8]) (wl_c rfl (wl_c rfl (wl_c rfl (wl_c rfl (wl_c rfl (wl_c rfl (wl_c rfl (wl_c rfl wl_n)))))))) rfl (by decide) (jn87333 z87485 H87474 w87478 f87488 ⟨by omega, by omega⟩ (by omega) (by omega) (by omega) (by omega) (by omega))
        have f87489 : wfr [(42, 8), (42, 9), (42, 10), (42, 11), (42, 12), (42, 13), (42, 14), (42, 15)] T H87272 H87272 := wfr.rf
        refine wp_of e187 c187_144 (rw_if_eq (p1 := 157) (p2 := 147) (by decide) rfl ⟨by omega, by omega⟩ (fun c87490 => ?_) (fun c87490 => ?_))
        · refine wp_of e187 c187_157 (rw_iconst (pc' := 158) rfl ?_)
          exact wp_lc (ks := [8, 7, 0, 1, 3, 4, 5, 6]) (wl_c rfl (wl_c rfl (wl_c rfl (wl_c rfl (wl_c rfl (wl_c rfl (wl_c rfl (wl_c rfl wl_n)))))))) rfl (by decide) (jn87304 0 H87272 w87276 f87489 ⟨by omega, by omega⟩ (by omega) (by omega) (by omega) (by omega) (by omega))
        · refine wp_of e187 c187_147 (rw_aload_n (pc' := 148) (v := .ref r0) rfl rfl rfl ?_)
          refine wp_of e187 c187_148 (rw_iconst (pc' := 149) rfl ?_)
          refine wp_of e187 c187_149 (rw_bipush (pc' := 151) (z := 23) rfl (by decide) ?_)
          refine wp_of e187 c187_151 (xc_V (pc' := 154) (r := r0) (as := [vI 0, vI 23]) (st := []) (lm_9_137) rfl rfl (Nat.le_of_ble_eq_true rfl) w87276 g0 sh_42 (by decide) rfl (by decide) (s_184 w87276 g0 ⟨by omega, by omega⟩ ⟨by omega, by omega⟩ (by omega)) (fun R87491 T87492 H87493 p87494 => ?_))
          obtain ⟨e87495, w87497, f87498, z87504, e87496, b87505, p87499, p87500, p87501, p87502, p87503⟩ := p87494
          subst e87495
          subst e87496
          have f87506 := f87284.tr f87498 rfl
          have f87507 := f87489.tr f87498 rfl
          show wp _ _ 187 154 [(8, vI z87282), (7, vI v87258), (0, .ref r0), (1, vL (H87113 r0 15)), (3, vI z87155), (4, vI z87181), (5, vI z87197), (6, vI z87223)] [vI z87504] _ H87493 _
          refine wp_of e187 c187_154 (rw_goto (p1 := 158) (by decide) ?_)
          exact wp_lc (ks := [8, 7, 0, 1, 3, 4, 5, 6]) (wl_c rfl (wl_c rfl (wl_c rfl (wl_c rfl (wl_c rfl (wl_c rfl (wl_c rfl (wl_c rfl wl_n)))))))) rfl (by decide) (jn87304 z87504 H87493 w87497 f87507 ⟨by omega, by omega⟩ (by omega) (by omega) (by omega) (by omega) (by omega))
      have f87508 : wfr [(42, 8), (42, 9), (42, 10), (42, 11), (42, 12), (42, 13), (42, 14), (42, 15)] T H87228 H87228 := wfr.rf
      refine wp_of e187 c187_118 (rw_if_eq (p1 := 131) (p2 := 121) (by decide) rfl ⟨by omega, by omega⟩ (fun c87509 => ?_) (fun c87509 => ?_))
      · refine wp_of e187 c187_131 (rw_iconst (pc' := 132) rfl ?_)
        exact wp_lc (ks := [6, 5, 4, 3, 1, 0]) (wl_c rfl (wl_c rfl (wl_c rfl (wl_c rfl (wl_c rfl (wl_c rfl wl_n)))))) rfl (by decide) (jn87260 (-1) H87228 w87232 f87508 ⟨by omega, by omega⟩ (by omega) (by omega) (by omega) (by omega) (by omega))
      · refine wp_of e187 c187_121 (rw_aload_n (pc' := 122) (v := .ref r0) rfl rfl rfl ?_)
        refine wp_of e187 c187_122 (rw_iconst (pc' := 123) rfl ?_)
        refine wp_of e187 c187_123 (rw_bipush (pc' := 125) (z := 23) rfl (by decide) ?_)
        refine wp_of e187 c187_125 (xc_V (pc' := 128) (r := r0) (as := [vI 0, vI 23]) (st := []) (lm_9_137) rfl rfl (Nat.le_of_ble_eq_true rfl) w87232 g0 sh_42 (by decide) rfl (by decide) (s_184 w87232 g0 ⟨by omega, by omega⟩ ⟨by omega, by omega⟩ (by omega)) (fun R87510 T87511 H87512 p87513 => ?_))
        obtain ⟨e87514, w87516, f87517, z87523, e87515, b87524, p87518, p87519, p87520, p87521, p87522⟩ := p87513
        subst e87514
        subst e87515
        have f87525 := f87240.tr f87517 rfl
        have f87526 := f87508.tr f87517 rfl
        show wp _ _ 187 128 [(6, vI z87223), (5, vI z87197), (4, vI z87181), (3, vI z87155), (1, vL (H87113 r0 15)), (0, .ref r0)] [vI z87523] _ H87512 _
        refine wp_of e187 c187_128 (rw_goto (p1 := 132) (by decide) ?_)
        exact wp_lc (ks := [6, 5, 4, 3, 1, 0]) (wl_c rfl (wl_c rfl (wl_c rfl (wl_c rfl (wl_c rfl (wl_c rfl wl_n)))))) rfl (by decide) (jn87260 z87523 H87512 w87516 f87526 ⟨by omega, by omega⟩ (by omega) (by omega) (by omega) (by omega) (by omega))
    have f87527 : wfr [(42, 9), (42, 13), (42, 14)] T H87073 H87073 := wfr.rf
    refine wp_of e187 c187_37 (rw_icmp_eq (p1 := 45) (p2 := 40) (by decide) rfl ⟨by omega, by omega⟩ ⟨by omega, by omega⟩ (fun c87528 => ?_) (fun c87528 => ?_))
    · exact wp_lc (ks := [0]) (wl_c rfl wl_n) rfl (by decide) (jn87114 H87073 w87075 f87527 (by omega) (by omega) (by omega) (by omega) (by omega))
    · refine wp_of e187 c187_40 (rw_aload_n (pc' := 41) (v := .ref r0) rfl rfl rfl ?_)
      refine wp_of e187 c187_41 (rw_iconst (pc' := 42) rfl ?_)
      refine wp_of e187 c187_42 (xc_V (pc' := 45) (r := r0) (as := [vI 3]) (st := []) (lm_9_121) rfl rfl (Nat.le_of_ble_eq_true rfl) w87075 g0 sh_42 (by decide) rfl (by decide) (s_181 w87075 g0 ⟨by omega, by omega⟩ (by omega)) (fun R87529 T87530 H87531 p87532 => ?_))
      obtain ⟨e87533, w87535, f87536, e87534, p87537, p87538, p87539, p87540, p87541, p87542⟩ := p87532
      subst e87533
      subst e87534
      have f87543 := f87082.tr f87536 rfl
      have f87544 := f87527.tr f87536 rfl
      show wp _ _ 187 45 [(0, .ref r0)] [] _ H87531 _
      exact wp_lc (ks := [0]) (wl_c rfl wl_n) rfl (by decide) (jn87114 H87531 w87535 f87544 (by omega) (by omega) (by omega) (by omega) (by omega))
  have f87545 : wfr [(42, 9), (42, 13), (42, 14)] T H87036 H87036 := wfr.rf
  refine wp_of e187 c187_17 (rw_if_ne (p1 := 25) (p2 := 20) (by decide) rfl ⟨by omega, by omega⟩ (fun c87546 => ?_) (fun c87546 => ?_))
  · exact wp_lc (ks := [0]) (wl_c rfl wl_n) rfl (by decide) (jn87074 H87036 w87040 f87545 (by omega) (by omega) (by omega) (by omega) (by omega))
  · refine wp_of e187 c187_20 (rw_aload_n (pc' := 21) (v := .ref r0) rfl rfl rfl ?_)
    refine wp_of e187 c187_21 (rw_iconst (pc' := 22) rfl ?_)
    refine wp_of e187 c187_22 (xc_V (pc' := 25) (r := r0) (as := [vI 1]) (st := []) (lm_9_121) rfl rfl (Nat.le_of_ble_eq_true rfl) w87040 g0 sh_42 (by decide) rfl (by decide) (s_181 w87040 g0 ⟨by omega, by omega⟩ (by omega)) (fun R87547 T87548 H87549 p87550 => ?_))
    obtain ⟨e87551, w87553, f87554, e87552, p87555, p87556, p87557, p87558, p87559, p87560⟩ := p87550
    subst e87551
    subst e87552
    have f87561 := f87047.tr f87554 rfl
    have f87562 := f87545.tr f87554 rfl
    show wp _ _ 187 25 [(0, .ref r0)] [] _ H87549 _
    exact wp_lc (ks := [0]) (wl_c rfl wl_n) rfl (by decide) (jn87074 H87549 w87553 f87562 (by omega) (by omega) (by omega) (by omega) (by omega))
