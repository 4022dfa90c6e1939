/-! parish of the reference (own work, written by wip/gen2/sx.py) -/
/-! StrikeAwakeModel.parish(I)I -/
theorem e169 : wq_en 169 = some (9, 3, false, some FieldType.int) := rfl
theorem c169_0 : mc_cd 169 0 = some (.aload_n 0, 1) := by decide +kernel
theorem c169_1 : mc_cd 169 1 = some (.iconst 0, 1) := by decide +kernel
theorem c169_2 : mc_cd 169 2 = some (.putfield 48, 3) := by decide +kernel
theorem c169_5 : mc_cd 169 5 = some (.iload_n 1, 1) := by decide +kernel
theorem c169_6 : mc_cd 169 6 = some (.ifCond .lt 11, 3) := by decide +kernel
theorem c169_9 : mc_cd 169 9 = some (.iload_n 1, 1) := by decide +kernel
theorem c169_10 : mc_cd 169 10 = some (.aload_n 0, 1) := by decide +kernel
theorem c169_11 : mc_cd 169 11 = some (.getfield 330, 3) := by decide +kernel
theorem c169_14 : mc_cd 169 14 = some (.if_icmp .le 9, 3) := by decide +kernel
theorem c169_17 : mc_cd 169 17 = some (.aload_n 0, 1) := by decide +kernel
theorem c169_18 : mc_cd 169 18 = some (.iconst 2, 1) := by decide +kernel
theorem c169_19 : mc_cd 169 19 = some (.invokevirtual 54, 3) := by decide +kernel
theorem c169_22 : mc_cd 169 22 = some (.ireturn, 1) := by decide +kernel
theorem c169_23 : mc_cd 169 23 = some (.aload_n 0, 1) := by decide +kernel
theorem c169_24 : mc_cd 169 24 = some (.iload_n 1, 1) := by decide +kernel
theorem c169_25 : mc_cd 169 25 = some (.putfield 61, 3) := by decide +kernel
theorem c169_28 : mc_cd 169 28 = some (.aload_n 0, 1) := by decide +kernel
theorem c169_29 : mc_cd 169 29 = some (.iconst 0, 1) := by decide +kernel
theorem c169_30 : mc_cd 169 30 = some (.putfield 330, 3) := by decide +kernel
theorem c169_33 : mc_cd 169 33 = some (.aload_n 0, 1) := by decide +kernel
theorem c169_34 : mc_cd 169 34 = some (.iconst 0, 1) := by decide +kernel
theorem c169_35 : mc_cd 169 35 = some (.putfield 78, 3) := by decide +kernel
theorem c169_38 : mc_cd 169 38 = some (.aload_n 0, 1) := by decide +kernel
theorem c169_39 : mc_cd 169 39 = some (.iconst 0, 1) := by decide +kernel
theorem c169_40 : mc_cd 169 40 = some (.putfield 104, 3) := by decide +kernel
theorem c169_43 : mc_cd 169 43 = some (.aload_n 0, 1) := by decide +kernel
theorem c169_44 : mc_cd 169 44 = some (.iconst 0, 1) := by decide +kernel
theorem c169_45 : mc_cd 169 45 = some (.putfield 293, 3) := by decide +kernel
theorem c169_48 : mc_cd 169 48 = some (.aload_n 0, 1) := by decide +kernel
theorem c169_49 : mc_cd 169 49 = some (.new 171, 3) := by decide +kernel
theorem c169_52 : mc_cd 169 52 = some (.dup, 1) := by decide +kernel
theorem c169_53 : mc_cd 169 53 = some (.invokespecial 333, 3) := by decide +kernel
theorem c169_56 : mc_cd 169 56 = some (.putfield 166, 3) := by decide +kernel
theorem c169_59 : mc_cd 169 59 = some (.aload_n 0, 1) := by decide +kernel
theorem c169_60 : mc_cd 169 60 = some (.iconst 0, 1) := by decide +kernel
theorem c169_61 : mc_cd 169 61 = some (.putfield 75, 3) := by decide +kernel
theorem c169_64 : mc_cd 169 64 = some (.aload_n 0, 1) := by decide +kernel
theorem c169_65 : mc_cd 169 65 = some (.invokevirtual 118, 3) := by decide +kernel
theorem c169_68 : mc_cd 169 68 = some (.aload_n 0, 1) := by decide +kernel
theorem c169_69 : mc_cd 169 69 = some (.invokevirtual 334, 3) := by decide +kernel
theorem c169_72 : mc_cd 169 72 = some (.aload_n 0, 1) := by decide +kernel
theorem c169_73 : mc_cd 169 73 = some (.getfield 104, 3) := by decide +kernel
theorem c169_76 : mc_cd 169 76 = some (.ifCond .le 18, 3) := by decide +kernel
theorem c169_79 : mc_cd 169 79 = some (.aload_n 0, 1) := by decide +kernel
theorem c169_80 : mc_cd 169 80 = some (.iconst 4, 1) := by decide +kernel
theorem c169_81 : mc_cd 169 81 = some (.putfield 51, 3) := by decide +kernel
theorem c169_84 : mc_cd 169 84 = some (.aload_n 0, 1) := by decide +kernel
theorem c169_85 : mc_cd 169 85 = some (.aload_n 0, 1) := by decide +kernel
theorem c169_86 : mc_cd 169 86 = some (.getfield 107, 3) := by decide +kernel
theorem c169_89 : mc_cd 169 89 = some (.putfield 9, 3) := by decide +kernel
theorem c169_92 : mc_cd 169 92 = some (.iconst (-1), 1) := by decide +kernel
theorem c169_93 : mc_cd 169 93 = some (.ireturn, 1) := by decide +kernel
theorem c169_94 : mc_cd 169 94 = some (.aload_n 0, 1) := by decide +kernel
theorem c169_95 : mc_cd 169 95 = some (.aload_n 0, 1) := by decide +kernel
theorem c169_96 : mc_cd 169 96 = some (.getfield 166, 3) := by decide +kernel
theorem c169_99 : mc_cd 169 99 = some (.putfield 337, 3) := by decide +kernel
theorem c169_102 : mc_cd 169 102 = some (.aload_n 0, 1) := by decide +kernel
theorem c169_103 : mc_cd 169 103 = some (.iconst 0, 1) := by decide +kernel
theorem c169_104 : mc_cd 169 104 = some (.putfield 340, 3) := by decide +kernel
theorem c169_107 : mc_cd 169 107 = some (.aload_n 0, 1) := by decide +kernel
theorem c169_108 : mc_cd 169 108 = some (.iconst 1, 1) := by decide +kernel
theorem c169_109 : mc_cd 169 109 = some (.aload_n 0, 1) := by decide +kernel
theorem c169_110 : mc_cd 169 110 = some (.getfield 337, 3) := by decide +kernel
theorem c169_113 : mc_cd 169 113 = some (.getfield 185, 3) := by decide +kernel
theorem c169_116 : mc_cd 169 116 = some (.ishl, 1) := by decide +kernel
theorem c169_117 : mc_cd 169 117 = some (.iconst 1, 1) := by decide +kernel
theorem c169_118 : mc_cd 169 118 = some (.isub, 1) := by decide +kernel
theorem c169_119 : mc_cd 169 119 = some (.putfield 343, 3) := by decide +kernel
theorem c169_122 : mc_cd 169 122 = some (.iconst 0, 1) := by decide +kernel
theorem c169_123 : mc_cd 169 123 = some (.istore_n 2, 1) := by decide +kernel
theorem c169_124 : mc_cd 169 124 = some (.iload_n 2, 1) := by decide +kernel
theorem c169_125 : mc_cd 169 125 = some (.bipush 24, 2) := by decide +kernel
theorem c169_127 : mc_cd 169 127 = some (.if_icmp .ge 39, 3) := by decide +kernel
theorem c169_130 : mc_cd 169 130 = some (.aload_n 0, 1) := by decide +kernel
theorem c169_131 : mc_cd 169 131 = some (.getfield 17, 3) := by decide +kernel
theorem c169_134 : mc_cd 169 134 = some (.iload_n 2, 1) := by decide +kernel
theorem c169_135 : mc_cd 169 135 = some (.aload_n 0, 1) := by decide +kernel
theorem c169_136 : mc_cd 169 136 = some (.getfield 343, 3) := by decide +kernel
theorem c169_139 : mc_cd 169 139 = some (.iload_n 2, 1) := by decide +kernel
theorem c169_140 : mc_cd 169 140 = some (.invokestatic 346, 3) := by decide +kernel
theorem c169_143 : mc_cd 169 143 = some (.ifCond .eq 15, 3) := by decide +kernel
theorem c169_146 : mc_cd 169 146 = some (.aload_n 0, 1) := by decide +kernel
theorem c169_147 : mc_cd 169 147 = some (.getfield 337, 3) := by decide +kernel
theorem c169_150 : mc_cd 169 150 = some (.getfield 296, 3) := by decide +kernel
theorem c169_153 : mc_cd 169 153 = some (.iload_n 2, 1) := by decide +kernel
theorem c169_154 : mc_cd 169 154 = some (.iaload, 1) := by decide +kernel
theorem c169_155 : mc_cd 169 155 = some (.goto 4, 3) := by decide +kernel
theorem c169_158 : mc_cd 169 158 = some (.iconst 0, 1) := by decide +kernel
theorem c169_159 : mc_cd 169 159 = some (.iastore, 1) := by decide +kernel
theorem c169_160 : mc_cd 169 160 = some (.iinc 2 1, 3) := by decide +kernel
theorem c169_163 : mc_cd 169 163 = some (.goto (-39), 3) := by decide +kernel
theorem c169_166 : mc_cd 169 166 = some (.iconst 0, 1) := by decide +kernel
theorem c169_167 : mc_cd 169 167 = some (.istore_n 2, 1) := by decide +kernel
theorem c169_168 : mc_cd 169 168 = some (.iload_n 2, 1) := by decide +kernel
theorem c169_169 : mc_cd 169 169 = some (.bipush 6, 2) := by decide +kernel
theorem c169_171 : mc_cd 169 171 = some (.if_icmp .ge 16, 3) := by decide +kernel
theorem c169_174 : mc_cd 169 174 = some (.aload_n 0, 1) := by decide +kernel
theorem c169_175 : mc_cd 169 175 = some (.getfield 36, 3) := by decide +kernel
theorem c169_178 : mc_cd 169 178 = some (.iload_n 2, 1) := by decide +kernel
theorem c169_179 : mc_cd 169 179 = some (.iconst 0, 1) := by decide +kernel
theorem c169_180 : mc_cd 169 180 = some (.iastore, 1) := by decide +kernel
theorem c169_181 : mc_cd 169 181 = some (.iinc 2 1, 3) := by decide +kernel
theorem c169_184 : mc_cd 169 184 = some (.goto (-16), 3) := by decide +kernel
theorem c169_187 : mc_cd 169 187 = some (.aload_n 0, 1) := by decide +kernel
theorem c169_188 : mc_cd 169 188 = some (.invokevirtual 350, 3) := by decide +kernel
theorem c169_191 : mc_cd 169 191 = some (.aload_n 0, 1) := by decide +kernel
theorem c169_192 : mc_cd 169 192 = some (.iconst 0, 1) := by decide +kernel
theorem c169_193 : mc_cd 169 193 = some (.putfield 353, 3) := by decide +kernel
theorem c169_196 : mc_cd 169 196 = some (.aload_n 0, 1) := by decide +kernel
theorem c169_197 : mc_cd 169 197 = some (.aload_n 0, 1) := by decide +kernel
theorem c169_198 : mc_cd 169 198 = some (.getfield 337, 3) := by decide +kernel
theorem c169_201 : mc_cd 169 201 = some (.getfield 188, 3) := by decide +kernel
theorem c169_204 : mc_cd 169 204 = some (.invokevirtual 58, 3) := by decide +kernel
theorem c169_207 : mc_cd 169 207 = some (.ireturn, 1) := by decide +kernel
abbrev q_169_c (r0 : Nat) (a1 : Int) (rp : Nat) (T : wq_T) (H : wq_H) : Option Value → wq_T → wq_H → Prop := fun r T' H' => T = T' ∧ WT T H' ∧ wfr [(54, 0), (54, 1), (54, 2), (54, 3), (54, 4), (54, 5), (54, 6), (54, 7), (54, 8), (42, 1), (42, 2), (42, 3), (42, 4), (42, 8), (42, 9), (42, 10), (42, 11), (42, 12), (42, 13), (42, 14), (42, 15), (42, 16), (42, 17), (42, 18), (42, 19), (42, 28), (42, 32), (48, 999), (49, 999), (46, 999), (47, 999), (50, 999), (45, 999), (44, 999), (64, 999), (65, 999), (56, 999), (57, 999), (66, 999), (60, 999), (63, 999), (58, 999), (59, 999), (55, 999), (61, 999), (62, 999), (72, 999), (71, 999), (67, 999), (68, 999), (69, 999)] T H H' ∧ ∃ z : Int, some (vI z) = r ∧ ((-2147483648) ≤ z ∧ z ≤ 2147483647) ∧ (wKI H' r0 = 1) ∧ (H' r0 6 = H r0 6)
set_option maxHeartbeats 4000000 in
theorem s_169_c {kt : Nat → Option mc_E} {T : wq_T} {H : wq_H} {r0 : Nat} {a1 : Int} {rp : Nat} (hW : WT T H) (g0 : T.2.2.2 r0 = some 42) (i1 : 0 ≤ a1 ∧ a1 ≤ 900) (grp : T.2.2.2 rp = some 54) (p0 : wPI H rp = 1) (p1 : wKI H r0 = 1) (p2 : H r0 3 ≠ (rp : Int)) (p3 : H r0 8 = 0) : wp kt 9 169 56 [(0, .ref r0), (1, vI a1)] [.ref rp, .ref r0] T H (q_169_c r0 a1 rp T H) := by
  have f0 : wfr [(54, 0), (54, 1), (54, 2), (54, 3), (54, 4), (54, 5), (54, 6), (54, 7), (54, 8), (42, 1), (42, 2), (42, 3), (42, 4), (42, 8), (42, 9), (42, 10), (42, 11), (42, 12), (42, 13), (42, 14), (42, 15), (42, 16), (42, 17), (42, 18), (42, 19), (42, 28), (42, 32), (48, 999), (49, 999), (46, 999), (47, 999), (50, 999), (45, 999), (44, 999), (64, 999), (65, 999), (56, 999), (57, 999), (66, 999), (60, 999), (63, 999), (58, 999), (59, 999), (55, 999), (61, 999), (62, 999), (72, 999), (71, 999), (67, 999), (68, 999), (69, 999)] T H H := wfr.rf
  show wp _ _ 169 56 [(0, .ref r0), (1, vI a1)] [.ref rp, .ref r0] _ H _
  have b128393 : 0 ≤ H r0 8 ∧ H r0 8 ≤ 900 := hW.box g0 (n := 33) rfl (by decide) rfl
  have b128394 : 0 ≤ H r0 6 ∧ H r0 6 ≤ 900 := hW.box g0 (n := 33) rfl (by decide) rfl
  have b128395 : 0 ≤ H r0 28 ∧ H r0 28 ≤ 1 := hW.box g0 (n := 33) rfl (by decide) rfl
  have b128396 : 0 ≤ H r0 29 ∧ H r0 29 ≤ 20000 := hW.box g0 (n := 33) rfl (by decide) rfl
  have hk := wKI_1.mp p1
  have hne := p2
  refine wp_of e169 c169_56 (xp_R (pc' := 59) lf_9_166 hW g0 sh_42 (by decide) (by decide) rfl rfl (wok_3 ty_42_4 grp) rfl (fun H128397 e128398 w128399 => ?_))
  have f128400 := f0.put' e128398 g0 rfl
  have q128401 : H128397 r0 4 = (rp : Int) := wq_u_s e128398
  refine wp_of e169 c169_59 (rw_aload_n (pc' := 60) (v := .ref r0) rfl rfl rfl ?_)
  refine wp_of e169 c169_60 (rw_iconst (pc' := 61) rfl ?_)
  refine wp_of e169 c169_61 (xp_I (pc' := 64) lf_9_75 w128399 g0 sh_42 (by decide) (by decide) ty_42_9 rfl rfl (by omega) (by omega) ⟨by omega, by omega⟩ rfl (fun H128402 e128403 w128404 => ?_))
  have f128405 := f128400.put' e128403 g0 rfl
  have k128406 : H128402 r0 9 = 0 := wq_u_s e128403
  refine wp_of e169 c169_64 (rw_aload_n (pc' := 65) (v := .ref r0) rfl rfl rfl ?_)
  refine wp_of e169 c169_65 (xc_V (pc' := 68) (r := r0) (as := []) (st := []) (lm_9_118) rfl rfl (Nat.le_of_ble_eq_true rfl) w128404 g0 sh_42 (by decide) rfl (by decide) (s_172_f w128404 g0 (by omega)) (fun R128407 T128408 H128409 p128410 => ?_))
  obtain ⟨e128411, w128413, f128414, e128412, p128415, p128416, p128417⟩ := p128410
  subst e128411
  subst e128412
  have f128418 := f128405.tr f128414 rfl
  show wp _ _ 169 68 [(0, .ref r0), (1, vI a1)] [] _ H128409 _
  refine wp_of e169 c169_68 (rw_aload_n (pc' := 69) (v := .ref r0) rfl rfl rfl ?_)
  have k128419 : H128409 r0 4 = H128397 r0 4 := ((f128414 r0 4 _ g0 rfl).trans (wq_u_j e128403 rfl))
  have q128420 : H128409 r0 4 = (rp : Int) := k128419.trans q128401
  have k128421 : wPI H128409 rp = wPI H rp := ((wPI_fr w128404 grp f128414 rfl).trans ((wPI_fr w128399 grp ((wfr.rf (l := [(42, 9)])).put' e128403 g0 rfl) rfl).trans (wPI_fr hW grp ((wfr.rf (l := [(42, 4)])).put' e128398 g0 rfl) rfl)))
  refine wp_of e169 c169_69 (xc_V (pc' := 72) (r := r0) (as := []) (st := []) (lm_9_334) rfl rfl (Nat.le_of_ble_eq_true rfl) w128413 g0 sh_42 (by decide) rfl (by decide) (s_176 w128413 g0 q128420 grp (by omega) (by omega)) (fun R128422 T128423 H128424 p128425 => ?_))
  obtain ⟨e128426, w128428, f128429, e128427, p128430, p128431, p128432, p128433, p128434, p128435⟩ := p128425
  subst e128426
  subst e128427
  have f128436 := f128418.tr f128429 rfl
  show wp _ _ 169 72 [(0, .ref r0), (1, vI a1)] [] _ H128424 _
  refine wp_of e169 c169_72 (rw_aload_n (pc' := 73) (v := .ref r0) rfl rfl rfl ?_)
  refine wp_of e169 c169_73 (xg_I (pc' := 76) lf_9_104 w128428 g0 sh_42 (by decide) (by decide) ty_42_13 rfl rfl (fun b128437 b128438 => ?_))
  refine wp_of e169 c169_76 (rw_if_le (p1 := 94) (p2 := 79) (by decide) rfl ⟨by omega, by omega⟩ (fun c128439 => ?_) (fun c128439 => ?_))
  · refine wp_of e169 c169_94 (rw_aload_n (pc' := 95) (v := .ref r0) rfl rfl rfl ?_)
    refine wp_of e169 c169_95 (rw_aload_n (pc' := 96) (v := .ref r0) rfl rfl rfl ?_)
    have k128440 : H128424 r0 4 = H128409 r0 4 := (f128429 r0 4 _ g0 rfl)
    have q128441 : H128424 r0 4 = (rp : Int) := k128440.trans q128420
    refine wp_of e169 c169_96 (xg_K (pc' := 99) lf_9_166 w128428 g0 sh_42 (by decide) (by decide) rfl q128441 rfl ?_)
    refine wp_of e169 c169_99 (xp_R (pc' := 102) lf_9_337 w128428 g0 sh_42 (by decide) (by decide) rfl rfl (wok_3 ty_42_3 grp) rfl (fun H128442 e128443 w128444 => ?_))
    have f128445 := f128436.put' e128443 g0 rfl
    have q128446 : H128442 r0 3 = (rp : Int) := wq_u_s e128443
    refine wp_of e169 c169_102 (rw_aload_n (pc' := 103) (v := .ref r0) rfl rfl rfl ?_)
    refine wp_of e169 c169_103 (rw_iconst (pc' := 104) rfl ?_)
    refine wp_of e169 c169_104 (xp_I (pc' := 107) lf_9_340 w128444 g0 sh_42 (by decide) (by decide) ty_42_32 rfl rfl (by omega) (by omega) ⟨by omega, by omega⟩ rfl (fun H128447 e128448 w128449 => ?_))
    have f128450 := f128445.put' e128448 g0 rfl
    have k128451 : H128447 r0 32 = 0 := wq_u_s e128448
    refine wp_of e169 c169_107 (rw_aload_n (pc' := 108) (v := .ref r0) rfl rfl rfl ?_)
    refine wp_of e169 c169_108 (rw_iconst (pc' := 109) rfl ?_)
    refine wp_of e169 c169_109 (rw_aload_n (pc' := 110) (v := .ref r0) rfl rfl rfl ?_)
    have k128452 : H128447 r0 3 = H128442 r0 3 := (wq_u_j e128448 rfl)
    have q128453 : H128447 r0 3 = (rp : Int) := k128452.trans q128446
    refine wp_of e169 c169_110 (xg_K (pc' := 113) lf_9_337 w128449 g0 sh_42 (by decide) (by decide) rfl q128453 rfl ?_)
    refine wp_of e169 c169_113 (xg_I (pc' := 116) lf_9_185 w128449 grp sh_54 (by decide) (by decide) ty_54_0 rfl rfl (fun b128454 b128455 => ?_))
    refine wp_of e169 c169_116 (rw_ishl (pc' := 117) rfl ?_)
    obtain ⟨v128456, e128457⟩ : ∃ x : Int, x = wq_shl 1 (H128447 rp 0) := ⟨_, rfl⟩
    rw [← e128457]
    have b128458 : -2147483648 ≤ v128456 ∧ v128456 ≤ 2147483647 := by
      rw [e128457]
      exact wI_shl _ _
    refine wp_of e169 c169_117 (rw_iconst (pc' := 118) rfl ?_)
    refine wp_of e169 c169_118 (rw_isubw (pc' := 119) rfl ?_)
    obtain ⟨v128459, e128460⟩ : ∃ x : Int, x = wq_w (v128456 - 1) := ⟨_, rfl⟩
    rw [← e128460]
    have b128461 : -2147483648 ≤ v128459 ∧ v128459 ≤ 2147483647 := by
      rw [e128460]
      exact wI_w _
    refine wp_of e169 c169_119 (xp_I (pc' := 122) lf_9_343 w128449 g0 sh_42 (by decide) (by decide) ty_42_19 rfl rfl (by omega) (by omega) ⟨by omega, by omega⟩ rfl (fun H128462 e128463 w128464 => ?_))
    have f128465 := f128450.put' e128463 g0 rfl
    have k128466 : H128462 r0 19 = v128459 := wq_u_s e128463
    refine wp_of e169 c169_122 (rw_iconst (pc' := 123) rfl ?_)
    refine wp_of e169 c169_123 (rw_istore_n (pc' := 124) (z := 0) (L' := [(2, vI 0), (0, .ref r0), (1, vI a1)]) rfl rfl rfl ?_)
    have lp128723 : ∀ (n128724 : Nat) (v128726 : Int) (H128727 : wq_H), WT T H128727 → wfr [(44, 999)] T H128462 H128727 → (0 ≤ v128726 ∧ v128726 ≤ 24) → (24 - v128726).toNat = n128724 → wp kt 9 169 124 [(2, vI v128726), (0, .ref r0)] [] T H128727 (q_169_c r0 a1 rp T H) := by
      intro n128724
      induction n128724 using Nat.strongRecOn with
      | _ n128724 ih128725 =>
        intro v128726 H128727 w128728 f128729 b128730 m128731
        have f128732 := f128465.tr f128729 rfl
        refine wp_of e169 c169_124 (rw_iload_n (pc' := 125) (z := v128726) rfl rfl ?_)
        refine wp_of e169 c169_125 (rw_bipush (pc' := 127) (z := 24) rfl (by decide) ?_)
        refine wp_of e169 c169_127 (rw_icmp_ge (p1 := 166) (p2 := 130) (by decide) rfl ⟨by omega, by omega⟩ ⟨by omega, by omega⟩ (fun c128733 => ?_) (fun c128733 => ?_))
        · refine wp_of e169 c169_166 (rw_iconst (pc' := 167) rfl ?_)
          refine wp_of e169 c169_167 (rw_istore_n (pc' := 168) (z := 0) (L' := [(2, vI 0), (0, .ref r0)]) rfl rfl rfl ?_)
          have lp128790 : ∀ (n128791 : Nat) (v128793 : Int) (H128794 : wq_H), WT T H128794 → wfr [(50, 999)] T H128727 H128794 → (0 ≤ v128793 ∧ v128793 ≤ 6) → (6 - v128793).toNat = n128791 → wp kt 9 169 168 [(2, vI v128793), (0, .ref r0)] [] T H128794 (q_169_c r0 a1 rp T H) := by
            intro n128791
            induction n128791 using Nat.strongRecOn with
            | _ n128791 ih128792 =>
              intro v128793 H128794 w128795 f128796 b128797 m128798
              have f128799 := f128732.tr f128796 rfl
              refine wp_of e169 c169_168 (rw_iload_n (pc' := 169) (z := v128793) rfl rfl ?_)
              refine wp_of e169 c169_169 (rw_bipush (pc' := 171) (z := 6) rfl (by decide) ?_)
              refine wp_of e169 c169_171 (rw_icmp_ge (p1 := 187) (p2 := 174) (by decide) rfl ⟨by omega, by omega⟩ ⟨by omega, by omega⟩ (fun c128800 => ?_) (fun c128800 => ?_))
              · refine wp_of e169 c169_187 (rw_aload_n (pc' := 188) (v := .ref r0) rfl rfl rfl ?_)
                have k128801 : H128794 r0 3 = H128447 r0 3 := ((f128796 r0 3 _ g0 rfl).trans ((f128729 r0 3 _ g0 rfl).trans (wq_u_j e128463 rfl)))
                have q128802 : H128794 r0 3 = (rp : Int) := k128801.trans q128453
                have k128803 : wPI H128794 rp = wPI H128424 rp := ((wPI_fr w128728 grp f128796 rfl).trans ((wPI_fr w128464 grp f128729 rfl).trans ((wPI_fr w128449 grp ((wfr.rf (l := [(42, 19)])).put' e128463 g0 rfl) rfl).trans ((wPI_fr w128444 grp ((wfr.rf (l := [(42, 32)])).put' e128448 g0 rfl) rfl).trans (wPI_fr w128428 grp ((wfr.rf (l := [(42, 3)])).put' e128443 g0 rfl) rfl)))))
                refine wp_of e169 c169_188 (xc_V (pc' := 191) (r := r0) (as := []) (st := []) (lm_9_350) rfl rfl (Nat.le_of_ble_eq_true rfl) w128795 g0 sh_42 (by decide) rfl (by decide) (s_206 w128795 g0 q128802 grp (by omega)) (fun R128804 T128805 H128806 p128807 => ?_))
                obtain ⟨e128808, w128810, f128811, e128809⟩ := p128807
                subst e128808
                subst e128809
                have f128812 := f128799.tr f128811 rfl
                show wp _ _ 169 191 [(2, vI v128793), (0, .ref r0)] [] _ H128806 _
                refine wp_of e169 c169_191 (rw_aload_n (pc' := 192) (v := .ref r0) rfl rfl rfl ?_)
                refine wp_of e169 c169_192 (rw_iconst (pc' := 193) rfl ?_)
                refine wp_of e169 c169_193 (xp_Z (pc' := 196) lf_9_353 w128810 g0 sh_42 (by decide) (by decide) ty_42_28 rfl rfl (by omega) (by omega) rfl (fun H128813 e128814 w128815 => ?_))
                have f128816 := f128812.put' e128814 g0 rfl
                have k128817 : H128813 r0 28 = 0 := wq_u_s e128814
                refine wp_of e169 c169_196 (rw_aload_n (pc' := 197) (v := .ref r0) rfl rfl rfl ?_)
                refine wp_of e169 c169_197 (rw_aload_n (pc' := 198) (v := .ref r0) rfl rfl rfl ?_)
                have k128818 : H128813 r0 3 = H128794 r0 3 := ((wq_u_j e128814 rfl).trans (f128811 r0 3 _ g0 rfl))
                have q128819 : H128813 r0 3 = (rp : Int) := k128818.trans q128802
                refine wp_of e169 c169_198 (xg_K (pc' := 201) lf_9_337 w128815 g0 sh_42 (by decide) (by decide) rfl q128819 rfl ?_)
                refine wp_of e169 c169_201 (xg_I (pc' := 204) lf_9_188 w128815 grp sh_54 (by decide) (by decide) ty_54_3 rfl rfl (fun b128820 b128821 => ?_))
                refine wp_of e169 c169_204 (xc_V (pc' := 207) (r := r0) (as := [vI (H128813 rp 3)]) (st := []) (lm_9_58) rfl rfl (Nat.le_of_ble_eq_true rfl) w128815 g0 sh_42 (by decide) rfl (by decide) (s_209 w128815 g0 ⟨by omega, by omega⟩) (fun R128822 T128823 H128824 p128825 => ?_))
                obtain ⟨e128826, w128828, f128829, z128830, e128827, b128831⟩ := p128825
                subst e128826
                subst e128827
                have f128832 := f128816.tr f128829 rfl
                show wp _ _ 169 207 [(2, vI v128793), (0, .ref r0)] [vI z128830] _ H128824 _
                have k128833 : H128824 r0 28 = H128813 r0 28 := (f128829 r0 28 _ g0 rfl)
                have k128834 : H128824 r0 29 = H r0 29 := ((f128829 r0 29 _ g0 rfl).trans ((wq_u_j e128814 rfl).trans ((f128811 r0 29 _ g0 rfl).trans ((f128796 r0 29 _ g0 rfl).trans ((f128729 r0 29 _ g0 rfl).trans ((wq_u_j e128463 rfl).trans ((wq_u_j e128448 rfl).trans ((wq_u_j e128443 rfl).trans ((f128429 r0 29 _ g0 rfl).trans ((f128414 r0 29 _ g0 rfl).trans ((wq_u_j e128403 rfl).trans (wq_u_j e128398 rfl))))))))))))
                have k128835 : wKI H128824 r0 = 1 := wKI_1.mpr (by omega)
                have k128836 : H128824 r0 6 = H r0 6 := ((f128829 r0 6 _ g0 rfl).trans ((wq_u_j e128814 rfl).trans ((f128811 r0 6 _ g0 rfl).trans ((f128796 r0 6 _ g0 rfl).trans ((f128729 r0 6 _ g0 rfl).trans ((wq_u_j e128463 rfl).trans ((wq_u_j e128448 rfl).trans ((wq_u_j e128443 rfl).trans ((f128429 r0 6 _ g0 rfl).trans ((f128414 r0 6 _ g0 rfl).trans ((wq_u_j e128403 rfl).trans (wq_u_j e128398 rfl))))))))))))
                exact wp_ireturn e169 c169_207 rfl ⟨rfl, w128828, f128832, z128830, rfl, ⟨by omega, by omega⟩, by omega, by omega⟩
              · refine wp_of e169 c169_174 (rw_aload_n (pc' := 175) (v := .ref r0) rfl rfl rfl ?_)
                refine wp_of e169 c169_175 (xg_R (pc' := 178) lf_9_36 w128795 g0 sh_42 (by decide) (by decide) ty_42_26 rfl rfl (fun r128837 q128838 g128839 => ?_))
                refine wp_of e169 c169_178 (rw_iload_n (pc' := 179) (z := v128793) rfl rfl ?_)
                refine wp_of e169 c169_179 (rw_iconst (pc' := 180) rfl ?_)
                refine wp_of e169 c169_180 (xs_I (pc' := 181) w128795 g128839 (by decide) sh_50 (by decide) (ty_50 _) (by omega) (by omega) ⟨by omega, by omega⟩ (by omega) (by omega) rfl (fun H128840 e128841 w128842 => ?_))
                have f128843 := f128799.put' e128841 g128839 rfl
                have f128844 := f128796.put' e128841 g128839 rfl
                refine wp_of e169 c169_181 (rw_iinc (pc' := 184) (z := v128793) (L' := [(2, vI (v128793 + 1)), (0, .ref r0)]) rfl rfl rfl rfl ?_)
                refine wp_of e169 c169_184 (rw_goto (p1 := 168) (by decide) ?_)
                exact wp_lc (ks := [2, 0]) (wl_c rfl (wl_c rfl wl_n)) rfl (by decide) (ih128792 _ (by omega) (v128793 + 1) H128840 w128842 f128844 ⟨by omega, by omega⟩ rfl)
          exact wp_lc (ks := [2, 0]) (wl_c rfl (wl_c rfl wl_n)) rfl (by decide) (lp128790 _ 0 H128727 w128728 wfr.rf ⟨by omega, by omega⟩ rfl)
        · refine wp_of e169 c169_130 (rw_aload_n (pc' := 131) (v := .ref r0) rfl rfl rfl ?_)
          refine wp_of e169 c169_131 (xg_R (pc' := 134) lf_9_17 w128728 g0 sh_42 (by decide) (by decide) ty_42_20 rfl rfl (fun r128845 q128846 g128847 => ?_))
          refine wp_of e169 c169_134 (rw_iload_n (pc' := 135) (z := v128726) rfl rfl ?_)
          refine wp_of e169 c169_135 (rw_aload_n (pc' := 136) (v := .ref r0) rfl rfl rfl ?_)
          have k128848 : H128727 r0 19 = H128462 r0 19 := (f128729 r0 19 _ g0 rfl)
          refine wp_of e169 c169_136 (xg_I (pc' := 139) lf_9_343 w128728 g0 sh_42 (by decide) (by decide) ty_42_19 rfl rfl (fun b128849 b128850 => ?_))
          refine wp_of e169 c169_139 (rw_iload_n (pc' := 140) (z := v128726) rfl rfl ?_)
          refine wp_of e169 c169_140 (xc_S (pc' := 143) (as := [vI (H128727 r0 19), vI v128726]) (st := [vI v128726, .ref r128845]) (lm_9_346) rfl rfl (Nat.le_of_ble_eq_true rfl) rfl (by decide) (s_205 w128728 ⟨by omega, by omega⟩ ⟨by omega, by omega⟩) (fun R128851 T128852 H128853 p128854 => ?_))
          obtain ⟨e128855, e128857, z128858, e128856, b128859⟩ := p128854
          subst e128855
          subst e128856
          subst e128857
          show wp _ _ 169 143 [(2, vI v128726), (0, .ref r0)] [vI z128858, vI v128726, .ref r128845] _ H128727 _
          refine wp_of e169 c169_143 (rw_if_eq (p1 := 158) (p2 := 146) (by decide) rfl ⟨by omega, by omega⟩ (fun c128860 => ?_) (fun c128860 => ?_))
          · refine wp_of e169 c169_158 (rw_iconst (pc' := 159) rfl ?_)
            refine wp_of e169 c169_159 (xs_I (pc' := 160) w128728 g128847 (by decide) sh_44 (by decide) (ty_44 _) (by omega) (by omega) ⟨by omega, by omega⟩ (by omega) (by omega) rfl (fun H128861 e128862 w128863 => ?_))
            have f128864 := f128732.put' e128862 g128847 rfl
            have f128865 := f128729.put' e128862 g128847 rfl
            refine wp_of e169 c169_160 (rw_iinc (pc' := 163) (z := v128726) (L' := [(2, vI (v128726 + 1)), (0, .ref r0)]) rfl rfl rfl rfl ?_)
            refine wp_of e169 c169_163 (rw_goto (p1 := 124) (by decide) ?_)
            exact wp_lc (ks := [2, 0]) (wl_c rfl (wl_c rfl wl_n)) rfl (by decide) (ih128725 _ (by omega) (v128726 + 1) H128861 w128863 f128865 ⟨by omega, by omega⟩ rfl)
          · refine wp_of e169 c169_146 (rw_aload_n (pc' := 147) (v := .ref r0) rfl rfl rfl ?_)
            have k128866 : H128727 r0 3 = H128447 r0 3 := ((f128729 r0 3 _ g0 rfl).trans (wq_u_j e128463 rfl))
            have q128867 : H128727 r0 3 = (rp : Int) := k128866.trans q128453
            refine wp_of e169 c169_147 (xg_K (pc' := 150) lf_9_337 w128728 g0 sh_42 (by decide) (by decide) rfl q128867 rfl ?_)
            refine wp_of e169 c169_150 (xg_R (pc' := 153) lf_9_296 w128728 grp sh_54 (by decide) (by decide) ty_54_21 rfl rfl (fun r128868 q128869 g128870 => ?_))
            refine wp_of e169 c169_153 (rw_iload_n (pc' := 154) (z := v128726) rfl rfl ?_)
            refine wp_of e169 c169_154 (xa_I (so := 0) (pc' := 155) w128728 g128870 sh_67 (by decide) (ty_67 _) (by omega) (by omega) rfl (fun b128871 b128872 => ?_))
            refine wp_of e169 c169_155 (rw_goto (p1 := 159) (by decide) ?_)
            refine wp_of e169 c169_159 (xs_I (pc' := 160) w128728 g128847 (by decide) sh_44 (by decide) (ty_44 _) (by omega) (by omega) ⟨by omega, by omega⟩ (by omega) (by omega) rfl (fun H128873 e128874 w128875 => ?_))
            have f128876 := f128732.put' e128874 g128847 rfl
            have f128877 := f128729.put' e128874 g128847 rfl
            refine wp_of e169 c169_160 (rw_iinc (pc' := 163) (z := v128726) (L' := [(2, vI (v128726 + 1)), (0, .ref r0)]) rfl rfl rfl rfl ?_)
            refine wp_of e169 c169_163 (rw_goto (p1 := 124) (by decide) ?_)
            exact wp_lc (ks := [2, 0]) (wl_c rfl (wl_c rfl wl_n)) rfl (by decide) (ih128725 _ (by omega) (v128726 + 1) H128873 w128875 f128877 ⟨by omega, by omega⟩ rfl)
    exact wp_lc (ks := [2, 0, 1]) (wl_c rfl (wl_c rfl wl_n)) rfl (by decide) (lp128723 _ 0 H128462 w128464 wfr.rf ⟨by omega, by omega⟩ rfl)
  · refine wp_of e169 c169_79 (rw_aload_n (pc' := 80) (v := .ref r0) rfl rfl rfl ?_)
    refine wp_of e169 c169_80 (rw_iconst (pc' := 81) rfl ?_)
    refine wp_of e169 c169_81 (xp_I (pc' := 84) lf_9_51 w128428 g0 sh_42 (by decide) (by decide) ty_42_1 rfl rfl (by omega) (by omega) ⟨by omega, by omega⟩ rfl (fun H128878 e128879 w128880 => ?_))
    have f128881 := f128436.put' e128879 g0 rfl
    have k128882 : H128878 r0 1 = 4 := wq_u_s e128879
    refine wp_of e169 c169_84 (rw_aload_n (pc' := 85) (v := .ref r0) rfl rfl rfl ?_)
    refine wp_of e169 c169_85 (rw_aload_n (pc' := 86) (v := .ref r0) rfl rfl rfl ?_)
    refine wp_of e169 c169_86 (xg_I (pc' := 89) lf_9_107 w128880 g0 sh_42 (by decide) (by decide) ty_42_14 rfl rfl (fun b128883 b128884 => ?_))
    refine wp_of e169 c169_89 (xp_I (pc' := 92) lf_9_9 w128880 g0 sh_42 (by decide) (by decide) ty_42_2 rfl rfl (by omega) (by omega) ⟨by omega, by omega⟩ rfl (fun H128885 e128886 w128887 => ?_))
    have f128888 := f128881.put' e128886 g0 rfl
    have k128889 : H128885 r0 2 = H128878 r0 14 := wq_u_s e128886
    refine wp_of e169 c169_92 (rw_iconst (pc' := 93) rfl ?_)
    have k128890 : H128885 r0 28 = H r0 28 := ((wq_u_j e128886 rfl).trans ((wq_u_j e128879 rfl).trans ((f128429 r0 28 _ g0 rfl).trans ((f128414 r0 28 _ g0 rfl).trans ((wq_u_j e128403 rfl).trans (wq_u_j e128398 rfl))))))
    have k128891 : H128885 r0 29 = H r0 29 := ((wq_u_j e128886 rfl).trans ((wq_u_j e128879 rfl).trans ((f128429 r0 29 _ g0 rfl).trans ((f128414 r0 29 _ g0 rfl).trans ((wq_u_j e128403 rfl).trans (wq_u_j e128398 rfl))))))
    have k128892 : wLM H128885 r0 = wLM H r0 := wLM_ot hW g0 (((wq_u_j e128886 rfl).trans ((wq_u_j e128879 rfl).trans ((f128429 r0 3 _ g0 rfl).trans ((f128414 r0 3 _ g0 rfl).trans ((wq_u_j e128403 rfl).trans (wq_u_j e128398 rfl))))))) (((wq_u_j e128886 rfl).trans ((wq_u_j e128879 rfl).trans ((f128429 r0 21 _ g0 rfl).trans ((f128414 r0 21 _ g0 rfl).trans ((wq_u_j e128403 rfl).trans (wq_u_j e128398 rfl))))))) (fun sp gs => funext (fun j => ((wq_u_t e128886 g0 gs rfl j).trans ((wq_u_t e128879 g0 gs rfl j).trans ((f128429 sp j _ gs rfl).trans ((f128414 sp j _ gs rfl).trans ((wq_u_t e128403 g0 gs rfl j).trans (wq_u_t e128398 g0 gs rfl j)))))))) (fun a ha ga => ((wq_u_t e128886 g0 ga rfl 3).trans ((wq_u_t e128879 g0 ga rfl 3).trans ((p128435 a ha ga).trans ((f128414 a 3 _ ga rfl).trans ((wq_u_t e128403 g0 ga rfl 3).trans (wq_u_t e128398 g0 ga rfl 3))))))) hne
    have k128893 : wKI H128885 r0 = 1 := wKI_1.mpr (by omega)
    have k128894 : H128885 r0 6 = H r0 6 := ((wq_u_j e128886 rfl).trans ((wq_u_j e128879 rfl).trans ((f128429 r0 6 _ g0 rfl).trans ((f128414 r0 6 _ g0 rfl).trans ((wq_u_j e128403 rfl).trans (wq_u_j e128398 rfl))))))
    exact wp_ireturn e169 c169_93 rfl ⟨rfl, w128887, f128888, -1, rfl, ⟨by omega, by omega⟩, by omega, by omega⟩

/-! StrikeAwakeModel.parish(I)I -/
abbrev q_169 (r0 : Nat) (a1 : Int) (T : wq_T) (H : wq_H) : Option Value → wq_T → wq_H → Prop := fun r T' H' => (∀ a t, T.2.2.2 a = some t → T'.2.2.2 a = some t) ∧ T'.2.1 ≤ T.2.1 + 19 ∧ T'.2.2.1 ≤ T.2.2.1 + 459 ∧ WT T' H' ∧ wfr [(54, 0), (54, 1), (54, 2), (54, 3), (54, 4), (54, 5), (54, 6), (54, 7), (54, 8), (42, 0), (42, 1), (42, 2), (42, 3), (42, 4), (42, 6), (42, 7), (42, 8), (42, 9), (42, 10), (42, 11), (42, 12), (42, 13), (42, 14), (42, 15), (42, 16), (42, 17), (42, 18), (42, 19), (42, 28), (42, 32), (48, 999), (49, 999), (46, 999), (47, 999), (50, 999), (45, 999), (44, 999), (64, 999), (65, 999), (56, 999), (57, 999), (66, 999), (60, 999), (63, 999), (58, 999), (59, 999), (55, 999), (61, 999), (62, 999), (72, 999), (71, 999), (67, 999), (68, 999), (69, 999)] T H H' ∧ ∃ z : Int, some (vI z) = r ∧ ((-2147483648) ≤ z ∧ z ≤ 2147483647) ∧ (wKI H' r0 = 1) ∧ (((a1 < 0 ∨ H r0 6 < a1) ∧ H' r0 6 = H r0 6) ∨ (0 ≤ a1 ∧ a1 ≤ H r0 6 ∧ H' r0 6 = 0))
set_option maxHeartbeats 4000000 in
theorem s_169 {kt : Nat → Option mc_E} {T : wq_T} {H : wq_H} {r0 : Nat} {a1 : Int} (hW : WT T H) (g0 : T.2.2.2 r0 = some 42) (i1 : (-2147483648) ≤ a1 ∧ a1 ≤ 2147483647) (p0 : wKI H r0 = 1) : wpc kt 10 169 [.ref r0, vI a1] T H (q_169 r0 a1 T H) := by
  refine wp_enter e169 (Nat.le_of_ble_eq_true rfl) rfl ?_
  have f0 : wfr [(54, 0), (54, 1), (54, 2), (54, 3), (54, 4), (54, 5), (54, 6), (54, 7), (54, 8), (42, 0), (42, 1), (42, 2), (42, 3), (42, 4), (42, 6), (42, 7), (42, 8), (42, 9), (42, 10), (42, 11), (42, 12), (42, 13), (42, 14), (42, 15), (42, 16), (42, 17), (42, 18), (42, 19), (42, 28), (42, 32), (48, 999), (49, 999), (46, 999), (47, 999), (50, 999), (45, 999), (44, 999), (64, 999), (65, 999), (56, 999), (57, 999), (66, 999), (60, 999), (63, 999), (58, 999), (59, 999), (55, 999), (61, 999), (62, 999), (72, 999), (71, 999), (67, 999), (68, 999), (69, 999)] T H H := wfr.rf
  show wp _ _ 169 0 [(0, .ref r0), (1, vI a1)] [] _ H _
  have b128956 : 0 ≤ H r0 6 ∧ H r0 6 ≤ 900 := hW.box g0 (n := 33) rfl (by decide) rfl
  refine wp_of e169 c169_0 (rw_aload_n (pc' := 1) (v := .ref r0) rfl rfl rfl ?_)
  refine wp_of e169 c169_1 (rw_iconst (pc' := 2) rfl ?_)
  refine wp_of e169 c169_2 (xp_I (pc' := 5) lf_9_48 hW g0 sh_42 (by decide) (by decide) ty_42_0 rfl rfl (by omega) (by omega) ⟨by omega, by omega⟩ rfl (fun H128957 e128958 w128959 => ?_))
  have f128960 := f0.put' e128958 g0 rfl
  have k128961 : H128957 r0 0 = 0 := wq_u_s e128958
  refine wp_of e169 c169_5 (rw_iload_n (pc' := 6) (z := a1) rfl rfl ?_)
  refine wp_of e169 c169_6 (rw_if_lt (p1 := 17) (p2 := 9) (by decide) rfl ⟨by omega, by omega⟩ (fun c128962 => ?_) (fun c128962 => ?_))
  · refine wp_of e169 c169_17 (rw_aload_n (pc' := 18) (v := .ref r0) rfl rfl rfl ?_)
    refine wp_of e169 c169_18 (rw_iconst (pc' := 19) rfl ?_)
    refine wp_of e169 c169_19 (xc_V (pc' := 22) (r := r0) (as := [vI 2]) (st := []) (lm_9_54) rfl rfl (Nat.le_of_ble_eq_true rfl) w128959 g0 sh_42 (by decide) rfl (by decide) (s_170 w128959 g0 ⟨by omega, by omega⟩) (fun R128963 T128964 H128965 p128966 => ?_))
    obtain ⟨e128967, w128969, f128970, z128971, e128968, b128972⟩ := p128966
    subst e128967
    subst e128968
    have f128973 := f128960.tr f128970 rfl
    show wp _ _ 169 22 [(0, .ref r0), (1, vI a1)] [vI z128971] _ H128965 _
    have k128974 : wKI H128965 r0 = wKI H r0 := ((wKI_fr w128959 g0 f128970 rfl).trans (wKI_fr hW g0 ((wfr.rf (l := [(42, 0)])).put' e128958 g0 rfl) rfl))
    have k128975 : H128965 r0 6 = H r0 6 := ((f128970 r0 6 _ g0 rfl).trans (wq_u_j e128958 rfl))
    exact wp_ireturn e169 c169_22 rfl ⟨fun _ _ h => h, by omega, by omega, w128969, f128973, z128971, rfl, ⟨by omega, by omega⟩, by omega, by omega⟩
  · refine wp_of e169 c169_9 (rw_iload_n (pc' := 10) (z := a1) rfl rfl ?_)
    refine wp_of e169 c169_10 (rw_aload_n (pc' := 11) (v := .ref r0) rfl rfl rfl ?_)
    have k128976 : H128957 r0 6 = H r0 6 := (wq_u_j e128958 rfl)
    refine wp_of e169 c169_11 (xg_I (pc' := 14) lf_9_330 w128959 g0 sh_42 (by decide) (by decide) ty_42_6 rfl rfl (fun b128977 b128978 => ?_))
    refine wp_of e169 c169_14 (rw_icmp_le (p1 := 23) (p2 := 17) (by decide) rfl ⟨by omega, by omega⟩ ⟨by omega, by omega⟩ (fun c128979 => ?_) (fun c128979 => ?_))
    · refine wp_of e169 c169_23 (rw_aload_n (pc' := 24) (v := .ref r0) rfl rfl rfl ?_)
      refine wp_of e169 c169_24 (rw_iload_n (pc' := 25) (z := a1) rfl rfl ?_)
      refine wp_of e169 c169_25 (xp_I (pc' := 28) lf_9_61 w128959 g0 sh_42 (by decide) (by decide) ty_42_7 rfl rfl (by omega) (by omega) ⟨by omega, by omega⟩ rfl (fun H128980 e128981 w128982 => ?_))
      have f128983 := f128960.put' e128981 g0 rfl
      have k128984 : H128980 r0 7 = a1 := wq_u_s e128981
      refine wp_of e169 c169_28 (rw_aload_n (pc' := 29) (v := .ref r0) rfl rfl rfl ?_)
      refine wp_of e169 c169_29 (rw_iconst (pc' := 30) rfl ?_)
      refine wp_of e169 c169_30 (xp_I (pc' := 33) lf_9_330 w128982 g0 sh_42 (by decide) (by decide) ty_42_6 rfl rfl (by omega) (by omega) ⟨by omega, by omega⟩ rfl (fun H128985 e128986 w128987 => ?_))
      have f128988 := f128983.put' e128986 g0 rfl
      have k128989 : H128985 r0 6 = 0 := wq_u_s e128986
      refine wp_of e169 c169_33 (rw_aload_n (pc' := 34) (v := .ref r0) rfl rfl rfl ?_)
      refine wp_of e169 c169_34 (rw_iconst (pc' := 35) rfl ?_)
      refine wp_of e169 c169_35 (xp_I (pc' := 38) lf_9_78 w128987 g0 sh_42 (by decide) (by decide) ty_42_8 rfl rfl (by omega) (by omega) ⟨by omega, by omega⟩ rfl (fun H128990 e128991 w128992 => ?_))
      have f128993 := f128988.put' e128991 g0 rfl
      have k128994 : H128990 r0 8 = 0 := wq_u_s e128991
      refine wp_of e169 c169_38 (rw_aload_n (pc' := 39) (v := .ref r0) rfl rfl rfl ?_)
      refine wp_of e169 c169_39 (rw_iconst (pc' := 40) rfl ?_)
      refine wp_of e169 c169_40 (xp_I (pc' := 43) lf_9_104 w128992 g0 sh_42 (by decide) (by decide) ty_42_13 rfl rfl (by omega) (by omega) ⟨by omega, by omega⟩ rfl (fun H128995 e128996 w128997 => ?_))
      have f128998 := f128993.put' e128996 g0 rfl
      have k128999 : H128995 r0 13 = 0 := wq_u_s e128996
      refine wp_of e169 c169_43 (rw_aload_n (pc' := 44) (v := .ref r0) rfl rfl rfl ?_)
      refine wp_of e169 c169_44 (rw_iconst (pc' := 45) rfl ?_)
      refine wp_of e169 c169_45 (xp_I (pc' := 48) lf_9_293 w128997 g0 sh_42 (by decide) (by decide) ty_42_16 rfl rfl (by omega) (by omega) ⟨by omega, by omega⟩ rfl (fun H129000 e129001 w129002 => ?_))
      have f129003 := f128998.put' e129001 g0 rfl
      have k129004 : H129000 r0 16 = 0 := wq_u_s e129001
      refine wp_of e169 c169_48 (rw_aload_n (pc' := 49) (v := .ref r0) rfl rfl rfl ?_)
      have k129005 : wKI H129000 r0 = wKI H r0 := ((wKI_fr w128997 g0 ((wfr.rf (l := [(42, 16)])).put' e129001 g0 rfl) rfl).trans ((wKI_fr w128992 g0 ((wfr.rf (l := [(42, 13)])).put' e128996 g0 rfl) rfl).trans ((wKI_fr w128987 g0 ((wfr.rf (l := [(42, 8)])).put' e128991 g0 rfl) rfl).trans ((wKI_fr w128982 g0 ((wfr.rf (l := [(42, 6)])).put' e128986 g0 rfl) rfl).trans ((wKI_fr w128959 g0 ((wfr.rf (l := [(42, 7)])).put' e128981 g0 rfl) rfl).trans (wKI_fr hW g0 ((wfr.rf (l := [(42, 0)])).put' e128958 g0 rfl) rfl))))))
      have k129006 : H129000 r0 6 = H128985 r0 6 := ((wq_u_j e129001 rfl).trans ((wq_u_j e128996 rfl).trans (wq_u_j e128991 rfl)))
      have k129007 : H129000 r0 8 = H128990 r0 8 := ((wq_u_j e129001 rfl).trans (wq_u_j e128996 rfl))
      refine wp_of e169 c169_49 (rw_new10 (pc' := 52) (e := _) rfl rfl rfl (fun hfr => ?_))
      refine wp_of e169 c169_52 (rw_dup (pc' := 53) rfl rfl ?_)
      refine wp_of e169 c169_53 (rw_calI (pc' := 56) (nn := 27) (as := []) (st := [.ref (256 + T.2.1), .ref r0]) lm_9_333 rfl rfl (Nat.le_of_ble_eq_true rfl) (by omega) (if_pos rfl) rfl (((s_171 w129002 hfr).deep (by decide)).imp (fun R9 T9 H9 p9 => ?_)))
      obtain ⟨w9, m9, g9, o9, pi9, n9, z9, e9⟩ := p9
      subst e9
      show wp _ _ 169 56 [(0, .ref r0), (1, vI a1)] [.ref (256 + T.2.1), .ref r0] T9 H9 _
      have hb : ∀ a t, T.2.2.2 a = some t → a < 256 + T.2.1 := fun a t h => by
        by_cases q : a < 256 + T.2.1
        · exact q
        · have h1 := (hW.2 a t h).1
          rw [hfr a (by omega)] at h1
          cases h1
      have k9 : H9 r0 = H129000 r0 := o9 r0 (hb _ _ g0)
      have k96 : H9 r0 6 = H129000 r0 6 := congrFun k9 6
      have k98 : H9 r0 8 = H129000 r0 8 := congrFun k9 8
      have k93 : H9 r0 3 = H129000 r0 3 := congrFun k9 3
      have kki : wKI H9 r0 = wKI H129000 r0 := wKI_old w129002 g0 (fun a t h => o9 a (hb a t h))
      have hne : H9 r0 3 ≠ ((256 + T.2.1 : Nat) : Int) := by
        rcases w129002.opt g0 (t' := 54) (n := 33) (j := 3) (p := 0) (q := 0) rfl (by decide) rfl with h5 | ⟨pp, h5, h6⟩
        · omega
        · have := hb pp _ h6
          omega
      refine (s_169_c w9 (m9 _ _ g0) ⟨by omega, by omega⟩ g9 pi9 (by omega) hne (by omega)).imp (fun r T2 H2 q => ?_)
      obtain ⟨eT, w2, f2, z2, er, bz, q0, q1⟩ := q
      subst eT
      subst er
      exact ⟨m9, by omega, by omega, w2, fun a j t ht hm => (f2 a j t (m9 _ _ ht) (wsub_of (l := [(54, 0), (54, 1), (54, 2), (54, 3), (54, 4), (54, 5), (54, 6), (54, 7), (54, 8), (42, 1), (42, 2), (42, 3), (42, 4), (42, 8), (42, 9), (42, 10), (42, 11), (42, 12), (42, 13), (42, 14), (42, 15), (42, 16), (42, 17), (42, 18), (42, 19), (42, 28), (42, 32), (48, 999), (49, 999), (46, 999), (47, 999), (50, 999), (45, 999), (44, 999), (64, 999), (65, 999), (56, 999), (57, 999), (66, 999), (60, 999), (63, 999), (58, 999), (59, 999), (55, 999), (61, 999), (62, 999), (72, 999), (71, 999), (67, 999), (68, 999), (69, 999)]) (l' := [(54, 0), (54, 1), (54, 2), (54, 3), (54, 4), (54, 5), (54, 6), (54, 7), (54, 8), (42, 0), (42, 1), (42, 2), (42, 3), (42, 4), (42, 6), (42, 7), (42, 8), (42, 9), (42, 10), (42, 11), (42, 12), (42, 13), (42, 14), (42, 15), (42, 16), (42, 17), (42, 18), (42, 19), (42, 28), (42, 32), (48, 999), (49, 999), (46, 999), (47, 999), (50, 999), (45, 999), (44, 999), (64, 999), (65, 999), (56, 999), (57, 999), (66, 999), (60, 999), (63, 999), (58, 999), (59, 999), (55, 999), (61, 999), (62, 999), (72, 999), (71, 999), (67, 999), (68, 999), (69, 999)]) rfl hm)).trans ((congrFun (o9 a (hb a t ht)) j).trans (f129003 a j t ht hm)), z2, rfl, bz, by omega, by omega⟩
    · refine wp_of e169 c169_17 (rw_aload_n (pc' := 18) (v := .ref r0) rfl rfl rfl ?_)
      refine wp_of e169 c169_18 (rw_iconst (pc' := 19) rfl ?_)
      refine wp_of e169 c169_19 (xc_V (pc' := 22) (r := r0) (as := [vI 2]) (st := []) (lm_9_54) rfl rfl (Nat.le_of_ble_eq_true rfl) w128959 g0 sh_42 (by decide) rfl (by decide) (s_170 w128959 g0 ⟨by omega, by omega⟩) (fun R129008 T129009 H129010 p129011 => ?_))
      obtain ⟨e129012, w129014, f129015, z129016, e129013, b129017⟩ := p129011
      subst e129012
      subst e129013
      have f129018 := f128960.tr f129015 rfl
      show wp _ _ 169 22 [(0, .ref r0), (1, vI a1)] [vI z129016] _ H129010 _
      have k129019 : wKI H129010 r0 = wKI H r0 := ((wKI_fr w128959 g0 f129015 rfl).trans (wKI_fr hW g0 ((wfr.rf (l := [(42, 0)])).put' e128958 g0 rfl) rfl))
      have k129020 : H129010 r0 6 = H128957 r0 6 := (f129015 r0 6 _ g0 rfl)
      exact wp_ireturn e169 c169_22 rfl ⟨fun _ _ h => h, by omega, by omega, w129014, f129018, z129016, rfl, ⟨by omega, by omega⟩, by omega, by omega⟩
