/-! methods of the reference (own work, written by wip/gen2/sx.py) -/
/-! StrikeAwakeModel.size(I)I -/
theorem e294 : wq_en 294 = some (9, 2, false, some FieldType.int) := rfl
theorem c294_0 : mc_cd 294 0 = some (.aload_n 0, 1) := by decide +kernel
theorem c294_1 : mc_cd 294 1 = some (.iconst 0, 1) := by decide +kernel
theorem c294_2 : mc_cd 294 2 = some (.putfield 48, 3) := by decide +kernel
theorem c294_5 : mc_cd 294 5 = some (.iload_n 1, 1) := by decide +kernel
theorem c294_6 : mc_cd 294 6 = some (.bipush 9, 2) := by decide +kernel
theorem c294_8 : mc_cd 294 8 = some (.if_icmp .ne 8, 3) := by decide +kernel
theorem c294_11 : mc_cd 294 11 = some (.aload_n 0, 1) := by decide +kernel
theorem c294_12 : mc_cd 294 12 = some (.getfield 330, 3) := by decide +kernel
theorem c294_15 : mc_cd 294 15 = some (.ireturn, 1) := by decide +kernel
theorem c294_16 : mc_cd 294 16 = some (.iload_n 1, 1) := by decide +kernel
theorem c294_17 : mc_cd 294 17 = some (.iconst 0, 1) := by decide +kernel
theorem c294_18 : mc_cd 294 18 = some (.bipush 8, 2) := by decide +kernel
theorem c294_20 : mc_cd 294 20 = some (.invokestatic 125, 3) := by decide +kernel
theorem c294_23 : mc_cd 294 23 = some (.ifCond .ne 5, 3) := by decide +kernel
theorem c294_26 : mc_cd 294 26 = some (.iconst (-1), 1) := by decide +kernel
theorem c294_27 : mc_cd 294 27 = some (.ireturn, 1) := by decide +kernel
theorem c294_28 : mc_cd 294 28 = some (.aload_n 0, 1) := by decide +kernel
theorem c294_29 : mc_cd 294 29 = some (.getfield 337, 3) := by decide +kernel
theorem c294_32 : mc_cd 294 32 = some (.ifnonnull 5, 3) := by decide +kernel
theorem c294_35 : mc_cd 294 35 = some (.iconst 0, 1) := by decide +kernel
theorem c294_36 : mc_cd 294 36 = some (.ireturn, 1) := by decide +kernel
theorem c294_37 : mc_cd 294 37 = some (.iload_n 1, 1) := by decide +kernel
theorem c294_38 : mc_cd 294 38 = some (.tableswitch 126 0 7 #[46, 54, 62, 70, 78, 86, 94, 102], 46) := by decide +kernel
theorem c294_84 : mc_cd 294 84 = some (.aload_n 0, 1) := by decide +kernel
theorem c294_85 : mc_cd 294 85 = some (.getfield 337, 3) := by decide +kernel
theorem c294_88 : mc_cd 294 88 = some (.getfield 188, 3) := by decide +kernel
theorem c294_91 : mc_cd 294 91 = some (.ireturn, 1) := by decide +kernel
theorem c294_92 : mc_cd 294 92 = some (.aload_n 0, 1) := by decide +kernel
theorem c294_93 : mc_cd 294 93 = some (.getfield 337, 3) := by decide +kernel
theorem c294_96 : mc_cd 294 96 = some (.getfield 276, 3) := by decide +kernel
theorem c294_99 : mc_cd 294 99 = some (.ireturn, 1) := by decide +kernel
theorem c294_100 : mc_cd 294 100 = some (.aload_n 0, 1) := by decide +kernel
theorem c294_101 : mc_cd 294 101 = some (.getfield 337, 3) := by decide +kernel
theorem c294_104 : mc_cd 294 104 = some (.getfield 288, 3) := by decide +kernel
theorem c294_107 : mc_cd 294 107 = some (.ireturn, 1) := by decide +kernel
theorem c294_108 : mc_cd 294 108 = some (.aload_n 0, 1) := by decide +kernel
theorem c294_109 : mc_cd 294 109 = some (.invokevirtual 357, 3) := by decide +kernel
theorem c294_112 : mc_cd 294 112 = some (.invokestatic 462, 3) := by decide +kernel
theorem c294_115 : mc_cd 294 115 = some (.ireturn, 1) := by decide +kernel
theorem c294_116 : mc_cd 294 116 = some (.aload_n 0, 1) := by decide +kernel
theorem c294_117 : mc_cd 294 117 = some (.getfield 337, 3) := by decide +kernel
theorem c294_120 : mc_cd 294 120 = some (.getfield 306, 3) := by decide +kernel
theorem c294_123 : mc_cd 294 123 = some (.ireturn, 1) := by decide +kernel
theorem c294_124 : mc_cd 294 124 = some (.aload_n 0, 1) := by decide +kernel
theorem c294_125 : mc_cd 294 125 = some (.getfield 337, 3) := by decide +kernel
theorem c294_128 : mc_cd 294 128 = some (.getfield 321, 3) := by decide +kernel
theorem c294_131 : mc_cd 294 131 = some (.ireturn, 1) := by decide +kernel
theorem c294_132 : mc_cd 294 132 = some (.aload_n 0, 1) := by decide +kernel
theorem c294_133 : mc_cd 294 133 = some (.getfield 337, 3) := by decide +kernel
theorem c294_136 : mc_cd 294 136 = some (.getfield 185, 3) := by decide +kernel
theorem c294_139 : mc_cd 294 139 = some (.ireturn, 1) := by decide +kernel
theorem c294_140 : mc_cd 294 140 = some (.aload_n 0, 1) := by decide +kernel
theorem c294_141 : mc_cd 294 141 = some (.getfield 337, 3) := by decide +kernel
theorem c294_144 : mc_cd 294 144 = some (.getfield 271, 3) := by decide +kernel
theorem c294_147 : mc_cd 294 147 = some (.iconst (-1), 1) := by decide +kernel
theorem c294_148 : mc_cd 294 148 = some (.if_icmp .ne 8, 3) := by decide +kernel
theorem c294_151 : mc_cd 294 151 = some (.bipush (-2), 2) := by decide +kernel
theorem c294_153 : mc_cd 294 153 = some (.goto 10, 3) := by decide +kernel
theorem c294_156 : mc_cd 294 156 = some (.aload_n 0, 1) := by decide +kernel
theorem c294_157 : mc_cd 294 157 = some (.getfield 337, 3) := by decide +kernel
theorem c294_160 : mc_cd 294 160 = some (.getfield 271, 3) := by decide +kernel
theorem c294_163 : mc_cd 294 163 = some (.ireturn, 1) := by decide +kernel
theorem c294_164 : mc_cd 294 164 = some (.aload_n 0, 1) := by decide +kernel
theorem c294_165 : mc_cd 294 165 = some (.getfield 340, 3) := by decide +kernel
theorem c294_168 : mc_cd 294 168 = some (.ireturn, 1) := by decide +kernel
abbrev q_294 (r0 : Nat) (a1 : Int) (T : wq_T) (H : wq_H) : Option Value → wq_T → wq_H → Prop := fun r T' H' => T = T' ∧ WT T H' ∧ wfr [(42, 0)] T H H' ∧ ∃ z : Int, some (vI z) = r ∧ ((-2147483648) ≤ z ∧ z ≤ 2147483647) ∧ (wKI H' r0 = 1)
set_option maxHeartbeats 4000000 in
theorem s_294 {kt : Nat → Option mc_E} {T : wq_T} {H : wq_H} {r0 : Nat} {a1 : Int} (hW : WT T H) (g0 : T.2.2.2 r0 = some 42) (i1 : (-2147483648) ≤ a1 ∧ a1 ≤ 2147483647) (p0 : wKI H r0 = 1) : wpc kt 2 294 [.ref r0, vI a1] T H (q_294 r0 a1 T H) := by
  refine wp_enter e294 (Nat.le_of_ble_eq_true rfl) rfl ?_
  have f0 : wfr [(42, 0)] T H H := wfr.rf
  show wp _ _ 294 0 [(0, .ref r0), (1, vI a1)] [] _ H _
  refine wp_of e294 c294_0 (rw_aload_n (pc' := 1) (v := .ref r0) rfl rfl rfl ?_)
  refine wp_of e294 c294_1 (rw_iconst (pc' := 2) rfl ?_)
  refine wp_of e294 c294_2 (xp_I (pc' := 5) lf_9_48 hW g0 sh_42 (by decide) (by decide) ty_42_0 rfl rfl (by omega) (by omega) ⟨by omega, by omega⟩ rfl (fun H227435 e227436 w227437 => ?_))
  have f227438 := f0.put' e227436 g0 rfl
  have k227439 : H227435 r0 0 = 0 := wq_u_s e227436
  refine wp_of e294 c294_5 (rw_iload_n (pc' := 6) (z := a1) rfl rfl ?_)
  refine wp_of e294 c294_6 (rw_bipush (pc' := 8) (z := 9) rfl (by decide) ?_)
  refine wp_of e294 c294_8 (rw_icmp_ne (p1 := 16) (p2 := 11) (by decide) rfl ⟨by omega, by omega⟩ ⟨by omega, by omega⟩ (fun c227440 => ?_) (fun c227440 => ?_))
  · refine wp_of e294 c294_16 (rw_iload_n (pc' := 17) (z := a1) rfl rfl ?_)
    refine wp_of e294 c294_17 (rw_iconst (pc' := 18) rfl ?_)
    refine wp_of e294 c294_18 (rw_bipush (pc' := 20) (z := 8) rfl (by decide) ?_)
    refine wp_of e294 c294_20 (xc_S (pc' := 23) (as := [vI a1, vI 0, vI 8]) (st := []) (lm_9_125) rfl rfl (Nat.le_of_ble_eq_true rfl) rfl (by decide) (s_186 w227437 ⟨by omega, by omega⟩ ⟨by omega, by omega⟩ ⟨by omega, by omega⟩) (fun R227441 T227442 H227443 p227444 => ?_))
    obtain ⟨e227445, e227447, z227449, e227446, b227450, p227448⟩ := p227444
    subst e227445
    subst e227446
    subst e227447
    show wp _ _ 294 23 [(0, .ref r0), (1, vI a1)] [vI z227449] _ H227435 _
    refine wp_of e294 c294_23 (rw_if_ne (p1 := 28) (p2 := 26) (by decide) rfl ⟨by omega, by omega⟩ (fun c227451 => ?_) (fun c227451 => ?_))
    · refine wp_of e294 c294_28 (rw_aload_n (pc' := 29) (v := .ref r0) rfl rfl rfl ?_)
      refine wp_of e294 c294_29 (xg_O (pc' := 32) lf_9_337 w227437 g0 sh_42 (by decide) (by decide) ty_42_3 rfl rfl (fun q227453 => ?_) (fun r227452 q227453 g227454 => ?_))
      · refine wp_of e294 c294_32 (rw_ifnonnull_n (p1 := 37) (p2 := 35) (by decide) rfl ?_)
        refine wp_of e294 c294_35 (rw_iconst (pc' := 36) rfl ?_)
        have k227455 : wKI H227435 r0 = wKI H r0 := (wKI_fr hW g0 ((wfr.rf (l := [(42, 0)])).put' e227436 g0 rfl) rfl)
        exact wp_ireturn e294 c294_36 rfl ⟨rfl, w227437, f227438, 0, rfl, ⟨by omega, by omega⟩, by omega⟩
      · refine wp_of e294 c294_32 (rw_ifnonnull_r (p1 := 37) (p2 := 35) (by decide) rfl ?_)
        refine wp_of e294 c294_37 (rw_iload_n (pc' := 38) (z := a1) rfl rfl ?_)
        have c227456 : a1 = 0 ∨ a1 = 1 ∨ a1 = 2 ∨ a1 = 3 ∨ a1 = 4 ∨ a1 = 5 ∨ a1 = 6 ∨ a1 = 7 ∨ (a1 < 0 ∨ 7 < a1) := by omega
        rcases c227456 with c227456 | c227456 | c227456 | c227456 | c227456 | c227456 | c227456 | c227456 | c227456
        · refine wp_of e294 c294_38 (rw_tsw (p1 := 84) ⟨by omega, by omega⟩ (by rw [c227456]; decide) ?_)
          refine wp_of e294 c294_84 (rw_aload_n (pc' := 85) (v := .ref r0) rfl rfl rfl ?_)
          refine wp_of e294 c294_85 (xg_K (pc' := 88) lf_9_337 w227437 g0 sh_42 (by decide) (by decide) rfl q227453 rfl ?_)
          refine wp_of e294 c294_88 (xg_I (pc' := 91) lf_9_188 w227437 g227454 sh_54 (by decide) (by decide) ty_54_3 rfl rfl (fun b227457 b227458 => ?_))
          have k227459 : wKI H227435 r0 = wKI H r0 := (wKI_fr hW g0 ((wfr.rf (l := [(42, 0)])).put' e227436 g0 rfl) rfl)
          exact wp_ireturn e294 c294_91 rfl ⟨rfl, w227437, f227438, H227435 r227452 3, rfl, ⟨by omega, by omega⟩, by omega⟩
        · refine wp_of e294 c294_38 (rw_tsw (p1 := 92) ⟨by omega, by omega⟩ (by rw [c227456]; decide) ?_)
          refine wp_of e294 c294_92 (rw_aload_n (pc' := 93) (v := .ref r0) rfl rfl rfl ?_)
          refine wp_of e294 c294_93 (xg_K (pc' := 96) lf_9_337 w227437 g0 sh_42 (by decide) (by decide) rfl q227453 rfl ?_)
          refine wp_of e294 c294_96 (xg_I (pc' := 99) lf_9_276 w227437 g227454 sh_54 (by decide) (by decide) ty_54_4 rfl rfl (fun b227460 b227461 => ?_))
          have k227462 : wKI H227435 r0 = wKI H r0 := (wKI_fr hW g0 ((wfr.rf (l := [(42, 0)])).put' e227436 g0 rfl) rfl)
          exact wp_ireturn e294 c294_99 rfl ⟨rfl, w227437, f227438, H227435 r227452 4, rfl, ⟨by omega, by omega⟩, by omega⟩
        · refine wp_of e294 c294_38 (rw_tsw (p1 := 100) ⟨by omega, by omega⟩ (by rw [c227456]; decide) ?_)
          refine wp_of e294 c294_100 (rw_aload_n (pc' := 101) (v := .ref r0) rfl rfl rfl ?_)
          refine wp_of e294 c294_101 (xg_K (pc' := 104) lf_9_337 w227437 g0 sh_42 (by decide) (by decide) rfl q227453 rfl ?_)
          refine wp_of e294 c294_104 (xg_I (pc' := 107) lf_9_288 w227437 g227454 sh_54 (by decide) (by decide) ty_54_5 rfl rfl (fun b227463 b227464 => ?_))
          have k227465 : wKI H227435 r0 = wKI H r0 := (wKI_fr hW g0 ((wfr.rf (l := [(42, 0)])).put' e227436 g0 rfl) rfl)
          exact wp_ireturn e294 c294_107 rfl ⟨rfl, w227437, f227438, H227435 r227452 5, rfl, ⟨by omega, by omega⟩, by omega⟩
        · refine wp_of e294 c294_38 (rw_tsw (p1 := 108) ⟨by omega, by omega⟩ (by rw [c227456]; decide) ?_)
          refine wp_of e294 c294_108 (rw_aload_n (pc' := 109) (v := .ref r0) rfl rfl rfl ?_)
          refine wp_of e294 c294_109 (xc_V (pc' := 112) (r := r0) (as := []) (st := []) (lm_9_357) rfl rfl (Nat.le_of_ble_eq_true rfl) w227437 g0 sh_42 (by decide) rfl (by decide) (s_207 w227437 g0) (fun R227466 T227467 H227468 p227469 => ?_))
          obtain ⟨e227470, e227472, z227473, e227471, b227474⟩ := p227469
          subst e227470
          subst e227471
          subst e227472
          show wp _ _ 294 112 [(0, .ref r0), (1, vI a1)] [vI z227473] _ H227435 _
          refine wp_of e294 c294_112 (xc_S (pc' := 115) (as := [vI z227473]) (st := []) (lm_9_462) rfl rfl (Nat.le_of_ble_eq_true rfl) rfl (by decide) (s_269 w227437 ⟨by omega, by omega⟩) (fun R227475 T227476 H227477 p227478 => ?_))
          obtain ⟨e227479, e227481, z227482, e227480, b227483⟩ := p227478
          subst e227479
          subst e227480
          subst e227481
          show wp _ _ 294 115 [(0, .ref r0), (1, vI a1)] [vI z227482] _ H227435 _
          have k227484 : wKI H227435 r0 = wKI H r0 := (wKI_fr hW g0 ((wfr.rf (l := [(42, 0)])).put' e227436 g0 rfl) rfl)
          exact wp_ireturn e294 c294_115 rfl ⟨rfl, w227437, f227438, z227482, rfl, ⟨by omega, by omega⟩, by omega⟩
        · refine wp_of e294 c294_38 (rw_tsw (p1 := 116) ⟨by omega, by omega⟩ (by rw [c227456]; decide) ?_)
          refine wp_of e294 c294_116 (rw_aload_n (pc' := 117) (v := .ref r0) rfl rfl rfl ?_)
          refine wp_of e294 c294_117 (xg_K (pc' := 120) lf_9_337 w227437 g0 sh_42 (by decide) (by decide) rfl q227453 rfl ?_)
          refine wp_of e294 c294_120 (xg_I (pc' := 123) lf_9_306 w227437 g227454 sh_54 (by decide) (by decide) ty_54_6 rfl rfl (fun b227485 b227486 => ?_))
          have k227487 : wKI H227435 r0 = wKI H r0 := (wKI_fr hW g0 ((wfr.rf (l := [(42, 0)])).put' e227436 g0 rfl) rfl)
          exact wp_ireturn e294 c294_123 rfl ⟨rfl, w227437, f227438, H227435 r227452 6, rfl, ⟨by omega, by omega⟩, by omega⟩
        · refine wp_of e294 c294_38 (rw_tsw (p1 := 124) ⟨by omega, by omega⟩ (by rw [c227456]; decide) ?_)
          refine wp_of e294 c294_124 (rw_aload_n (pc' := 125) (v := .ref r0) rfl rfl rfl ?_)
          refine wp_of e294 c294_125 (xg_K (pc' := 128) lf_9_337 w227437 g0 sh_42 (by decide) (by decide) rfl q227453 rfl ?_)
          refine wp_of e294 c294_128 (xg_I (pc' := 131) lf_9_321 w227437 g227454 sh_54 (by decide) (by decide) ty_54_7 rfl rfl (fun b227488 b227489 => ?_))
          have k227490 : wKI H227435 r0 = wKI H r0 := (wKI_fr hW g0 ((wfr.rf (l := [(42, 0)])).put' e227436 g0 rfl) rfl)
          exact wp_ireturn e294 c294_131 rfl ⟨rfl, w227437, f227438, H227435 r227452 7, rfl, ⟨by omega, by omega⟩, by omega⟩
        · refine wp_of e294 c294_38 (rw_tsw (p1 := 132) ⟨by omega, by omega⟩ (by rw [c227456]; decide) ?_)
          refine wp_of e294 c294_132 (rw_aload_n (pc' := 133) (v := .ref r0) rfl rfl rfl ?_)
          refine wp_of e294 c294_133 (xg_K (pc' := 136) lf_9_337 w227437 g0 sh_42 (by decide) (by decide) rfl q227453 rfl ?_)
          refine wp_of e294 c294_136 (xg_I (pc' := 139) lf_9_185 w227437 g227454 sh_54 (by decide) (by decide) ty_54_0 rfl rfl (fun b227491 b227492 => ?_))
          have k227493 : wKI H227435 r0 = wKI H r0 := (wKI_fr hW g0 ((wfr.rf (l := [(42, 0)])).put' e227436 g0 rfl) rfl)
          exact wp_ireturn e294 c294_139 rfl ⟨rfl, w227437, f227438, H227435 r227452 0, rfl, ⟨by omega, by omega⟩, by omega⟩
        · refine wp_of e294 c294_38 (rw_tsw (p1 := 140) ⟨by omega, by omega⟩ (by rw [c227456]; decide) ?_)
          refine wp_of e294 c294_140 (rw_aload_n (pc' := 141) (v := .ref r0) rfl rfl rfl ?_)
          refine wp_of e294 c294_141 (xg_K (pc' := 144) lf_9_337 w227437 g0 sh_42 (by decide) (by decide) rfl q227453 rfl ?_)
          refine wp_of e294 c294_144 (xg_I (pc' := 147) lf_9_271 w227437 g227454 sh_54 (by decide) (by decide) ty_54_8 rfl rfl (fun b227494 b227495 => ?_))
          refine wp_of e294 c294_147 (rw_iconst (pc' := 148) rfl ?_)
          refine wp_of e294 c294_148 (rw_icmp_ne (p1 := 156) (p2 := 151) (by decide) rfl ⟨by omega, by omega⟩ ⟨by omega, by omega⟩ (fun c227496 => ?_) (fun c227496 => ?_))
          · refine wp_of e294 c294_156 (rw_aload_n (pc' := 157) (v := .ref r0) rfl rfl rfl ?_)
            refine wp_of e294 c294_157 (xg_K (pc' := 160) lf_9_337 w227437 g0 sh_42 (by decide) (by decide) rfl q227453 rfl ?_)
            refine wp_of e294 c294_160 (xg_I (pc' := 163) lf_9_271 w227437 g227454 sh_54 (by decide) (by decide) ty_54_8 rfl rfl (fun b227497 b227498 => ?_))
            have k227499 : wKI H227435 r0 = wKI H r0 := (wKI_fr hW g0 ((wfr.rf (l := [(42, 0)])).put' e227436 g0 rfl) rfl)
            exact wp_ireturn e294 c294_163 rfl ⟨rfl, w227437, f227438, H227435 r227452 8, rfl, ⟨by omega, by omega⟩, by omega⟩
          · refine wp_of e294 c294_151 (rw_bipush (pc' := 153) (z := -2) rfl (by decide) ?_)
            refine wp_of e294 c294_153 (rw_goto (p1 := 163) (by decide) ?_)
            have k227500 : wKI H227435 r0 = wKI H r0 := (wKI_fr hW g0 ((wfr.rf (l := [(42, 0)])).put' e227436 g0 rfl) rfl)
            exact wp_ireturn e294 c294_163 rfl ⟨rfl, w227437, f227438, -2, rfl, ⟨by omega, by omega⟩, by omega⟩
        · refine wp_of e294 c294_38 (rw_tsw (p1 := 164) ⟨by omega, by omega⟩ (by rw [if_pos c227456]; decide) ?_)
          refine wp_of e294 c294_164 (rw_aload_n (pc' := 165) (v := .ref r0) rfl rfl rfl ?_)
          refine wp_of e294 c294_165 (xg_I (pc' := 168) lf_9_340 w227437 g0 sh_42 (by decide) (by decide) ty_42_32 rfl rfl (fun b227501 b227502 => ?_))
          have k227503 : wKI H227435 r0 = wKI H r0 := (wKI_fr hW g0 ((wfr.rf (l := [(42, 0)])).put' e227436 g0 rfl) rfl)
          exact wp_ireturn e294 c294_168 rfl ⟨rfl, w227437, f227438, H227435 r0 32, rfl, ⟨by omega, by omega⟩, by omega⟩
    · refine wp_of e294 c294_26 (rw_iconst (pc' := 27) rfl ?_)
      have k227504 : wKI H227435 r0 = wKI H r0 := (wKI_fr hW g0 ((wfr.rf (l := [(42, 0)])).put' e227436 g0 rfl) rfl)
      exact wp_ireturn e294 c294_27 rfl ⟨rfl, w227437, f227438, -1, rfl, ⟨by omega, by omega⟩, by omega⟩
  · refine wp_of e294 c294_11 (rw_aload_n (pc' := 12) (v := .ref r0) rfl rfl rfl ?_)
    refine wp_of e294 c294_12 (xg_I (pc' := 15) lf_9_330 w227437 g0 sh_42 (by decide) (by decide) ty_42_6 rfl rfl (fun b227505 b227506 => ?_))
    have k227507 : wKI H227435 r0 = wKI H r0 := (wKI_fr hW g0 ((wfr.rf (l := [(42, 0)])).put' e227436 g0 rfl) rfl)
    exact wp_ireturn e294 c294_15 rfl ⟨rfl, w227437, f227438, H227435 r0 6, rfl, ⟨by omega, by omega⟩, by omega⟩
/-! StrikeAwakeModel.trouble()I -/
theorem e295 : wq_en 295 = some (9, 1, false, some FieldType.int) := rfl
theorem c295_0 : mc_cd 295 0 = some (.aload_n 0, 1) := by decide +kernel
theorem c295_1 : mc_cd 295 1 = some (.iconst 0, 1) := by decide +kernel
theorem c295_2 : mc_cd 295 2 = some (.putfield 48, 3) := by decide +kernel
theorem c295_5 : mc_cd 295 5 = some (.aload_n 0, 1) := by decide +kernel
theorem c295_6 : mc_cd 295 6 = some (.getfield 51, 3) := by decide +kernel
theorem c295_9 : mc_cd 295 9 = some (.ireturn, 1) := by decide +kernel
abbrev q_295 (r0 : Nat) (T : wq_T) (H : wq_H) : Option Value → wq_T → wq_H → Prop := fun r T' H' => T = T' ∧ WT T H' ∧ wfr [(42, 0)] T H H' ∧ ∃ z : Int, some (vI z) = r ∧ ((-2147483648) ≤ z ∧ z ≤ 2147483647) ∧ (wKI H' r0 = 1)
set_option maxHeartbeats 4000000 in
theorem s_295 {kt : Nat → Option mc_E} {T : wq_T} {H : wq_H} {r0 : Nat} (hW : WT T H) (g0 : T.2.2.2 r0 = some 42) (p0 : wKI H r0 = 1) : wpc kt 1 295 [.ref r0] T H (q_295 r0 T H) := by
  refine wp_enter e295 (Nat.le_of_ble_eq_true rfl) rfl ?_
  have f0 : wfr [(42, 0)] T H H := wfr.rf
  show wp _ _ 295 0 [(0, .ref r0)] [] _ H _
  refine wp_of e295 c295_0 (rw_aload_n (pc' := 1) (v := .ref r0) rfl rfl rfl ?_)
  refine wp_of e295 c295_1 (rw_iconst (pc' := 2) rfl ?_)
  refine wp_of e295 c295_2 (xp_I (pc' := 5) lf_9_48 hW g0 sh_42 (by decide) (by decide) ty_42_0 rfl rfl (by omega) (by omega) ⟨by omega, by omega⟩ rfl (fun H227516 e227517 w227518 => ?_))
  have f227519 := f0.put' e227517 g0 rfl
  have k227520 : H227516 r0 0 = 0 := wq_u_s e227517
  refine wp_of e295 c295_5 (rw_aload_n (pc' := 6) (v := .ref r0) rfl rfl rfl ?_)
  refine wp_of e295 c295_6 (xg_I (pc' := 9) lf_9_51 w227518 g0 sh_42 (by decide) (by decide) ty_42_1 rfl rfl (fun b227521 b227522 => ?_))
  have k227523 : wKI H227516 r0 = wKI H r0 := (wKI_fr hW g0 ((wfr.rf (l := [(42, 0)])).put' e227517 g0 rfl) rfl)
  exact wp_ireturn e295 c295_9 rfl ⟨rfl, w227518, f227519, H227516 r0 1, rfl, ⟨by omega, by omega⟩, by omega⟩
