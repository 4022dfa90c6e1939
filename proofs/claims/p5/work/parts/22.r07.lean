/-! methods of the reference (own work, written by wip/gen2/sx.py) -/
/-! StrikeAwakeModel.having(II)I -/
theorem e249 : wq_en 249 = some (9, 6, false, some FieldType.int) := rfl
theorem c249_0 : mc_cd 249 0 = some (.aload_n 0, 1) := by decide +kernel
theorem c249_1 : mc_cd 249 1 = some (.iconst 0, 1) := by decide +kernel
theorem c249_2 : mc_cd 249 2 = some (.putfield 48, 3) := by decide +kernel
theorem c249_5 : mc_cd 249 5 = some (.aload_n 0, 1) := by decide +kernel
theorem c249_6 : mc_cd 249 6 = some (.aload_n 0, 1) := by decide +kernel
theorem c249_7 : mc_cd 249 7 = some (.iload_n 1, 1) := by decide +kernel
theorem c249_8 : mc_cd 249 8 = some (.iload_n 2, 1) := by decide +kernel
theorem c249_9 : mc_cd 249 9 = some (.invokevirtual 367, 3) := by decide +kernel
theorem c249_12 : mc_cd 249 12 = some (.invokevirtual 433, 3) := by decide +kernel
theorem c249_15 : mc_cd 249 15 = some (.istore_n 3, 1) := by decide +kernel
theorem c249_16 : mc_cd 249 16 = some (.iload_n 3, 1) := by decide +kernel
theorem c249_17 : mc_cd 249 17 = some (.ifCond .le 9, 3) := by decide +kernel
theorem c249_20 : mc_cd 249 20 = some (.aload_n 0, 1) := by decide +kernel
theorem c249_21 : mc_cd 249 21 = some (.iload_n 3, 1) := by decide +kernel
theorem c249_22 : mc_cd 249 22 = some (.invokevirtual 54, 3) := by decide +kernel
theorem c249_25 : mc_cd 249 25 = some (.ireturn, 1) := by decide +kernel
theorem c249_26 : mc_cd 249 26 = some (.iconst 0, 1) := by decide +kernel
theorem c249_27 : mc_cd 249 27 = some (.istore 4, 2) := by decide +kernel
theorem c249_29 : mc_cd 249 29 = some (.iconst 0, 1) := by decide +kernel
theorem c249_30 : mc_cd 249 30 = some (.istore 5, 2) := by decide +kernel
theorem c249_32 : mc_cd 249 32 = some (.iload 5, 2) := by decide +kernel
theorem c249_34 : mc_cd 249 34 = some (.aload_n 0, 1) := by decide +kernel
theorem c249_35 : mc_cd 249 35 = some (.getfield 422, 3) := by decide +kernel
theorem c249_38 : mc_cd 249 38 = some (.if_icmp .ge 40, 3) := by decide +kernel
theorem c249_41 : mc_cd 249 41 = some (.aload_n 0, 1) := by decide +kernel
theorem c249_42 : mc_cd 249 42 = some (.aload_n 0, 1) := by decide +kernel
theorem c249_43 : mc_cd 249 43 = some (.getfield 42, 3) := by decide +kernel
theorem c249_46 : mc_cd 249 46 = some (.iload 5, 2) := by decide +kernel
theorem c249_48 : mc_cd 249 48 = some (.iaload, 1) := by decide +kernel
theorem c249_49 : mc_cd 249 49 = some (.invokevirtual 425, 3) := by decide +kernel
theorem c249_52 : mc_cd 249 52 = some (.iload 4, 2) := by decide +kernel
theorem c249_54 : mc_cd 249 54 = some (.aload_n 0, 1) := by decide +kernel
theorem c249_55 : mc_cd 249 55 = some (.getfield 39, 3) := by decide +kernel
theorem c249_58 : mc_cd 249 58 = some (.iload_n 1, 1) := by decide +kernel
theorem c249_59 : mc_cd 249 59 = some (.iaload, 1) := by decide +kernel
theorem c249_60 : mc_cd 249 60 = some (.iload_n 2, 1) := by decide +kernel
theorem c249_61 : mc_cd 249 61 = some (.if_icmp .ne 7, 3) := by decide +kernel
theorem c249_64 : mc_cd 249 64 = some (.iconst 1, 1) := by decide +kernel
theorem c249_65 : mc_cd 249 65 = some (.goto 4, 3) := by decide +kernel
theorem c249_68 : mc_cd 249 68 = some (.iconst 0, 1) := by decide +kernel
theorem c249_69 : mc_cd 249 69 = some (.iadd, 1) := by decide +kernel
theorem c249_70 : mc_cd 249 70 = some (.istore 4, 2) := by decide +kernel
theorem c249_72 : mc_cd 249 72 = some (.iinc 5 1, 3) := by decide +kernel
theorem c249_75 : mc_cd 249 75 = some (.goto (-43), 3) := by decide +kernel
theorem c249_78 : mc_cd 249 78 = some (.aload_n 0, 1) := by decide +kernel
theorem c249_79 : mc_cd 249 79 = some (.iload 4, 2) := by decide +kernel
theorem c249_81 : mc_cd 249 81 = some (.invokevirtual 58, 3) := by decide +kernel
theorem c249_84 : mc_cd 249 84 = some (.ireturn, 1) := by decide +kernel
abbrev q_249 (r0 : Nat) (a1 : Int) (a2 : Int) (T : wq_T) (H : wq_H) : Option Value → wq_T → wq_H → Prop := fun r T' H' => T = T' ∧ WT T H' ∧ wfr [(42, 0), (42, 1), (42, 2), (42, 28), (42, 29), (51, 999), (52, 999)] T H H' ∧ ∃ z : Int, some (vI z) = r ∧ ((-2147483648) ≤ z ∧ z ≤ 2147483647) ∧ (wKI H' r0 = 1) ∧ (H' r0 2 = -1)
set_option maxHeartbeats 4000000 in
theorem s_249 {kt : Nat → Option mc_E} {T : wq_T} {H : wq_H} {r0 : Nat} {a1 : Int} {a2 : Int} (hW : WT T H) (g0 : T.2.2.2 r0 = some 42) (i1 : (-2147483648) ≤ a1 ∧ a1 ≤ 2147483647) (i2 : (-2147483648) ≤ a2 ∧ a2 ≤ 2147483647) (p0 : wKI H r0 = 1) : wpc kt 8 249 [.ref r0, vI a1, vI a2] T H (q_249 r0 a1 a2 T H) := by
  refine wp_enter e249 (Nat.le_of_ble_eq_true rfl) rfl ?_
  have f0 : wfr [(42, 0), (42, 1), (42, 2), (42, 28), (42, 29), (51, 999), (52, 999)] T H H := wfr.rf
  show wp _ _ 249 0 [(0, .ref r0), (1, vI a1), (2, vI a2)] [] _ H _
  refine wp_of e249 c249_0 (rw_aload_n (pc' := 1) (v := .ref r0) rfl rfl rfl ?_)
  refine wp_of e249 c249_1 (rw_iconst (pc' := 2) rfl ?_)
  refine wp_of e249 c249_2 (xp_I (pc' := 5) lf_9_48 hW g0 sh_42 (by decide) (by decide) ty_42_0 rfl rfl (by omega) (by omega) ⟨by omega, by omega⟩ rfl (fun H139044 e139045 w139046 => ?_))
  have f139047 := f0.put' e139045 g0 rfl
  have k139048 : H139044 r0 0 = 0 := wq_u_s e139045
  refine wp_of e249 c249_5 (rw_aload_n (pc' := 6) (v := .ref r0) rfl rfl rfl ?_)
  refine wp_of e249 c249_6 (rw_aload_n (pc' := 7) (v := .ref r0) rfl rfl rfl ?_)
  refine wp_of e249 c249_7 (rw_iload_n (pc' := 8) (z := a1) rfl rfl ?_)
  refine wp_of e249 c249_8 (rw_iload_n (pc' := 9) (z := a2) rfl rfl ?_)
  refine wp_of e249 c249_9 (xc_V (pc' := 12) (r := r0) (as := [vI a1, vI a2]) (st := [.ref r0]) (lm_9_367) rfl rfl (Nat.le_of_ble_eq_true rfl) w139046 g0 sh_42 (by decide) rfl (by decide) (s_215 w139046 g0 ⟨by omega, by omega⟩ ⟨by omega, by omega⟩) (fun R139049 T139050 H139051 p139052 => ?_))
  obtain ⟨e139053, e139055, z139057, e139054, b139058, p139056⟩ := p139052
  subst e139053
  subst e139054
  subst e139055
  show wp _ _ 249 12 [(0, .ref r0), (1, vI a1), (2, vI a2)] [vI z139057, .ref r0] _ H139044 _
  have k139059 : wKI H139044 r0 = wKI H r0 := (wKI_fr hW g0 ((wfr.rf (l := [(42, 0)])).put' e139045 g0 rfl) rfl)
  refine wp_of e249 c249_12 (xc_V (pc' := 15) (r := r0) (as := [vI z139057]) (st := []) (lm_9_433) rfl rfl (Nat.le_of_ble_eq_true rfl) w139046 g0 sh_42 (by decide) rfl (by decide) (s_241 w139046 g0 ⟨by omega, by omega⟩ (by omega) (by omega)) (fun R139060 T139061 H139062 p139063 => ?_))
  obtain ⟨e139064, w139066, f139067, z139072, e139065, b139073, p139068, p139069, p139070, p139071⟩ := p139063
  subst e139064
  subst e139065
  have f139074 := f139047.tr f139067 rfl
  show wp _ _ 249 15 [(0, .ref r0), (1, vI a1), (2, vI a2)] [vI z139072] _ H139062 _
  refine wp_of e249 c249_15 (rw_istore_n (pc' := 16) (z := z139072) (L' := [(3, vI z139072), (0, .ref r0), (1, vI a1), (2, vI a2)]) rfl rfl rfl ?_)
  refine wp_of e249 c249_16 (rw_iload_n (pc' := 17) (z := z139072) rfl rfl ?_)
  refine wp_of e249 c249_17 (rw_if_le (p1 := 26) (p2 := 20) (by decide) rfl ⟨by omega, by omega⟩ (fun c139075 => ?_) (fun c139075 => ?_))
  · refine wp_of e249 c249_26 (rw_iconst (pc' := 27) rfl ?_)
    refine wp_of e249 c249_27 (rw_istore (pc' := 29) (z := 0) (L' := [(4, vI 0), (3, vI z139072), (0, .ref r0), (1, vI a1), (2, vI a2)]) rfl rfl rfl ?_)
    refine wp_of e249 c249_29 (rw_iconst (pc' := 30) rfl ?_)
    refine wp_of e249 c249_30 (rw_istore (pc' := 32) (z := 0) (L' := [(5, vI 0), (4, vI 0), (3, vI z139072), (0, .ref r0), (1, vI a1), (2, vI a2)]) rfl rfl rfl ?_)
    have lp139341 : ∀ (n139342 : Nat) (v139344 : Int) (v139345 : Int) (H139346 : wq_H), WT T H139346 → wfr [(51, 999)] T H139062 H139346 → (0 ≤ v139344 ∧ v139344 ≤ 20000) → ((-2147483648) ≤ v139345 ∧ v139345 ≤ 2147483647) → (20000 - v139344).toNat = n139342 → wp kt 7 249 32 [(5, vI v139344), (4, vI v139345), (0, .ref r0), (1, vI a1), (2, vI a2)] [] T H139346 (q_249 r0 a1 a2 T H) := by
      intro n139342
      induction n139342 using Nat.strongRecOn with
      | _ n139342 ih139343 =>
        intro v139344 v139345 H139346 w139347 f139348 b139349 b139350 m139351
        have f139352 := f139074.tr f139348 rfl
        refine wp_of e249 c249_32 (rw_iload (pc' := 34) (z := v139344) rfl rfl ?_)
        refine wp_of e249 c249_34 (rw_aload_n (pc' := 35) (v := .ref r0) rfl rfl rfl ?_)
        have k139353 : H139346 r0 29 = H139062 r0 29 := (f139348 r0 29 _ g0 rfl)
        refine wp_of e249 c249_35 (xg_I (pc' := 38) lf_9_422 w139347 g0 sh_42 (by decide) (by decide) ty_42_29 rfl rfl (fun b139354 b139355 => ?_))
        refine wp_of e249 c249_38 (rw_icmp_ge (p1 := 78) (p2 := 41) (by decide) rfl ⟨by omega, by omega⟩ ⟨by omega, by omega⟩ (fun c139356 => ?_) (fun c139356 => ?_))
        · refine wp_of e249 c249_78 (rw_aload_n (pc' := 79) (v := .ref r0) rfl rfl rfl ?_)
          refine wp_of e249 c249_79 (rw_iload (pc' := 81) (z := v139345) rfl rfl ?_)
          refine wp_of e249 c249_81 (xc_V (pc' := 84) (r := r0) (as := [vI v139345]) (st := []) (lm_9_58) rfl rfl (Nat.le_of_ble_eq_true rfl) w139347 g0 sh_42 (by decide) rfl (by decide) (s_209 w139347 g0 ⟨by omega, by omega⟩) (fun R139357 T139358 H139359 p139360 => ?_))
          obtain ⟨e139361, w139363, f139364, z139366, e139362, b139367, p139365⟩ := p139360
          subst e139361
          subst e139362
          have f139368 := f139352.tr f139364 rfl
          show wp _ _ 249 84 [(5, vI v139344), (4, vI v139345), (0, .ref r0), (1, vI a1), (2, vI a2)] [vI z139366] _ H139359 _
          have k139369 : wKI H139359 r0 = wKI H139062 r0 := ((wKI_fr w139347 g0 f139364 rfl).trans (wKI_fr w139066 g0 f139348 rfl))
          exact wp_ireturn e249 c249_84 rfl ⟨rfl, w139363, f139368, z139366, rfl, ⟨by omega, by omega⟩, by omega, by omega⟩
        · refine wp_of e249 c249_41 (rw_aload_n (pc' := 42) (v := .ref r0) rfl rfl rfl ?_)
          refine wp_of e249 c249_42 (rw_aload_n (pc' := 43) (v := .ref r0) rfl rfl rfl ?_)
          refine wp_of e249 c249_43 (xg_R (pc' := 46) lf_9_42 w139347 g0 sh_42 (by decide) (by decide) ty_42_30 rfl rfl (fun r139370 q139371 g139372 => ?_))
          refine wp_of e249 c249_46 (rw_iload (pc' := 48) (z := v139344) rfl rfl ?_)
          refine wp_of e249 c249_48 (xa_I (so := 0) (pc' := 49) w139347 g139372 sh_52 (by decide) (ty_52 _) (by omega) (by omega) rfl (fun b139373 b139374 => ?_))
          have k139375 : wLM H139346 r0 = wLM H139062 r0 := (wLM_fr w139066 g0 f139348 rfl)
          have k139376 : H139346 r0 3 = H139044 r0 3 := ((f139348 r0 3 _ g0 rfl).trans (f139067 r0 3 _ g0 rfl))
          obtain ⟨r139377, q139378, g139379⟩ := (w139347.opt g0 (t' := 54) (n := 33) (j := 3) (p := 0) (q := 0) rfl (by decide) rfl).resolve_left (by omega)
          refine wp_of e249 c249_49 (xc_V (pc' := 52) (r := r0) (as := [vI (H139346 r139370 (v139344.toNat))]) (st := []) (lm_9_425) rfl rfl (Nat.le_of_ble_eq_true rfl) w139347 g0 sh_42 (by decide) rfl (by decide) (s_243 w139347 g0 ⟨by omega, by omega⟩ q139378 g139379 (by omega)) (fun R139380 T139381 H139382 p139383 => ?_))
          obtain ⟨e139384, w139386, f139387, e139385⟩ := p139383
          subst e139384
          subst e139385
          have f139388 := f139352.tr f139387 rfl
          have f139389 := f139348.tr f139387 rfl
          show wp _ _ 249 52 [(5, vI v139344), (4, vI v139345), (0, .ref r0), (1, vI a1), (2, vI a2)] [] _ H139382 _
          refine wp_of e249 c249_52 (rw_iload (pc' := 54) (z := v139345) rfl rfl ?_)
          refine wp_of e249 c249_54 (rw_aload_n (pc' := 55) (v := .ref r0) rfl rfl rfl ?_)
          refine wp_of e249 c249_55 (xg_R (pc' := 58) lf_9_39 w139386 g0 sh_42 (by decide) (by decide) ty_42_27 rfl rfl (fun r139390 q139391 g139392 => ?_))
          refine wp_of e249 c249_58 (rw_iload_n (pc' := 59) (z := a1) rfl rfl ?_)
          refine wp_of e249 c249_59 (xa_I (so := 0) (pc' := 60) w139386 g139392 sh_51 (by decide) (ty_51 _) (by omega) (by omega) rfl (fun b139393 b139394 => ?_))
          refine wp_of e249 c249_60 (rw_iload_n (pc' := 61) (z := a2) rfl rfl ?_)
          refine wp_of e249 c249_61 (rw_icmp_ne (p1 := 68) (p2 := 64) (by decide) rfl ⟨by omega, by omega⟩ ⟨by omega, by omega⟩ (fun c139395 => ?_) (fun c139395 => ?_))
          · refine wp_of e249 c249_68 (rw_iconst (pc' := 69) rfl ?_)
            refine wp_of e249 c249_69 (rw_iadd (pc' := 70) rfl ?_)
            refine wp_of e249 c249_70 (rw_istore (pc' := 72) (z := v139345 + 0) (L' := [(4, vI (v139345 + 0)), (5, vI v139344), (0, .ref r0), (1, vI a1), (2, vI a2)]) rfl rfl rfl ?_)
            refine wp_of e249 c249_72 (rw_iinc (pc' := 75) (z := v139344) (L' := [(5, vI (v139344 + 1)), (4, vI (v139345 + 0)), (0, .ref r0), (1, vI a1), (2, vI a2)]) rfl rfl rfl rfl ?_)
            refine wp_of e249 c249_75 (rw_goto (p1 := 32) (by decide) ?_)
            exact wp_lc (ks := [5, 4, 0, 1, 2]) (wl_c rfl (wl_c rfl (wl_c rfl (wl_c rfl (wl_c rfl wl_n))))) rfl (by decide) (ih139343 _ (by omega) (v139344 + 1) (v139345 + 0) H139382 w139386 f139389 ⟨by omega, by omega⟩ ⟨by omega, by omega⟩ rfl)
          · refine wp_of e249 c249_64 (rw_iconst (pc' := 65) rfl ?_)
            refine wp_of e249 c249_65 (rw_goto (p1 := 69) (by decide) ?_)
            refine wp_of e249 c249_69 (rw_iaddw (pc' := 70) rfl ?_)
            obtain ⟨v139396, e139397⟩ : ∃ x : Int, x = wq_w (v139345 + 1) := ⟨_, rfl⟩
            rw [← e139397]
            have b139398 : -2147483648 ≤ v139396 ∧ v139396 ≤ 2147483647 := by
              rw [e139397]
              exact wI_w _
            refine wp_of e249 c249_70 (rw_istore (pc' := 72) (z := v139396) (L' := [(4, vI v139396), (5, vI v139344), (0, .ref r0), (1, vI a1), (2, vI a2)]) rfl rfl rfl ?_)
            refine wp_of e249 c249_72 (rw_iinc (pc' := 75) (z := v139344) (L' := [(5, vI (v139344 + 1)), (4, vI v139396), (0, .ref r0), (1, vI a1), (2, vI a2)]) rfl rfl rfl rfl ?_)
            refine wp_of e249 c249_75 (rw_goto (p1 := 32) (by decide) ?_)
            exact wp_lc (ks := [5, 4, 0, 1, 2]) (wl_c rfl (wl_c rfl (wl_c rfl (wl_c rfl (wl_c rfl wl_n))))) rfl (by decide) (ih139343 _ (by omega) (v139344 + 1) v139396 H139382 w139386 f139389 ⟨by omega, by omega⟩ ⟨by omega, by omega⟩ rfl)
    exact wp_lc (ks := [5, 4, 3, 0, 1, 2]) (wl_c rfl (wl_c rfl (wl_c rfl (wl_c rfl (wl_c rfl wl_n))))) rfl (by decide) (lp139341 _ 0 0 H139062 w139066 wfr.rf ⟨by omega, by omega⟩ ⟨by omega, by omega⟩ rfl)
  · refine wp_of e249 c249_20 (rw_aload_n (pc' := 21) (v := .ref r0) rfl rfl rfl ?_)
    refine wp_of e249 c249_21 (rw_iload_n (pc' := 22) (z := z139072) rfl rfl ?_)
    refine wp_of e249 c249_22 (xc_V (pc' := 25) (r := r0) (as := [vI z139072]) (st := []) (lm_9_54) rfl rfl (Nat.le_of_ble_eq_true rfl) w139066 g0 sh_42 (by decide) rfl (by decide) (s_170 w139066 g0 ⟨by omega, by omega⟩) (fun R139399 T139400 H139401 p139402 => ?_))
    obtain ⟨e139403, w139405, f139406, z139408, e139404, b139409, p139407⟩ := p139402
    subst e139403
    subst e139404
    have f139410 := f139074.tr f139406 rfl
    show wp _ _ 249 25 [(3, vI z139072), (0, .ref r0), (1, vI a1), (2, vI a2)] [vI z139408] _ H139401 _
    have k139411 : wKI H139401 r0 = wKI H139062 r0 := (wKI_fr w139066 g0 f139406 rfl)
    exact wp_ireturn e249 c249_25 rfl ⟨rfl, w139405, f139410, z139408, rfl, ⟨by omega, by omega⟩, by omega, by omega⟩
/-! StrikeAwakeModel.awakeIn(II)I -/
theorem e251 : wq_en 251 = some (9, 5, false, some FieldType.int) := rfl
theorem c251_0 : mc_cd 251 0 = some (.iconst 0, 1) := by decide +kernel
theorem c251_1 : mc_cd 251 1 = some (.istore_n 3, 1) := by decide +kernel
theorem c251_2 : mc_cd 251 2 = some (.iconst 0, 1) := by decide +kernel
theorem c251_3 : mc_cd 251 3 = some (.istore 4, 2) := by decide +kernel
theorem c251_5 : mc_cd 251 5 = some (.iload 4, 2) := by decide +kernel
theorem c251_7 : mc_cd 251 7 = some (.aload_n 0, 1) := by decide +kernel
theorem c251_8 : mc_cd 251 8 = some (.getfield 422, 3) := by decide +kernel
theorem c251_11 : mc_cd 251 11 = some (.if_icmp .ge 51, 3) := by decide +kernel
theorem c251_14 : mc_cd 251 14 = some (.aload_n 0, 1) := by decide +kernel
theorem c251_15 : mc_cd 251 15 = some (.aload_n 0, 1) := by decide +kernel
theorem c251_16 : mc_cd 251 16 = some (.getfield 42, 3) := by decide +kernel
theorem c251_19 : mc_cd 251 19 = some (.iload 4, 2) := by decide +kernel
theorem c251_21 : mc_cd 251 21 = some (.iaload, 1) := by decide +kernel
theorem c251_22 : mc_cd 251 22 = some (.invokevirtual 425, 3) := by decide +kernel
theorem c251_25 : mc_cd 251 25 = some (.iload_n 3, 1) := by decide +kernel
theorem c251_26 : mc_cd 251 26 = some (.aload_n 0, 1) := by decide +kernel
theorem c251_27 : mc_cd 251 27 = some (.getfield 33, 3) := by decide +kernel
theorem c251_30 : mc_cd 251 30 = some (.bipush 40, 2) := by decide +kernel
theorem c251_32 : mc_cd 251 32 = some (.iload_n 1, 1) := by decide +kernel
theorem c251_33 : mc_cd 251 33 = some (.imul, 1) := by decide +kernel
theorem c251_34 : mc_cd 251 34 = some (.aload_n 0, 1) := by decide +kernel
theorem c251_35 : mc_cd 251 35 = some (.getfield 39, 3) := by decide +kernel
theorem c251_38 : mc_cd 251 38 = some (.iload_n 1, 1) := by decide +kernel
theorem c251_39 : mc_cd 251 39 = some (.iaload, 1) := by decide +kernel
theorem c251_40 : mc_cd 251 40 = some (.iadd, 1) := by decide +kernel
theorem c251_41 : mc_cd 251 41 = some (.iaload, 1) := by decide +kernel
theorem c251_42 : mc_cd 251 42 = some (.iload_n 2, 1) := by decide +kernel
theorem c251_43 : mc_cd 251 43 = some (.invokestatic 346, 3) := by decide +kernel
theorem c251_46 : mc_cd 251 46 = some (.ifCond .eq 7, 3) := by decide +kernel
theorem c251_49 : mc_cd 251 49 = some (.iconst 1, 1) := by decide +kernel
theorem c251_50 : mc_cd 251 50 = some (.goto 4, 3) := by decide +kernel
theorem c251_53 : mc_cd 251 53 = some (.iconst 0, 1) := by decide +kernel
theorem c251_54 : mc_cd 251 54 = some (.iadd, 1) := by decide +kernel
theorem c251_55 : mc_cd 251 55 = some (.istore_n 3, 1) := by decide +kernel
theorem c251_56 : mc_cd 251 56 = some (.iinc 4 1, 3) := by decide +kernel
theorem c251_59 : mc_cd 251 59 = some (.goto (-54), 3) := by decide +kernel
theorem c251_62 : mc_cd 251 62 = some (.iload_n 3, 1) := by decide +kernel
theorem c251_63 : mc_cd 251 63 = some (.ireturn, 1) := by decide +kernel
abbrev q_251 (r0 : Nat) (a1 : Int) (a2 : Int) (pp : Nat) (T : wq_T) (H : wq_H) : Option Value → wq_T → wq_H → Prop := fun r T' H' => T = T' ∧ WT T H' ∧ wfr [(51, 999)] T H H' ∧ ∃ z : Int, some (vI z) = r ∧ ((-2147483648) ≤ z ∧ z ≤ 2147483647)
set_option maxHeartbeats 4000000 in
theorem s_251 {kt : Nat → Option mc_E} {T : wq_T} {H : wq_H} {r0 : Nat} {a1 : Int} {a2 : Int} {pp : Nat} (hW : WT T H) (g0 : T.2.2.2 r0 = some 42) (i1 : 0 ≤ a1 ∧ a1 ≤ 5) (i2 : (-2147483648) ≤ a2 ∧ a2 ≤ 2147483647) (qpp : H r0 3 = (pp : Int)) (gpp : T.2.2.2 pp = some 54) (p0 : H r0 29 = 0 ∨ 0 < wLM H r0) : wpc kt 2 251 [.ref r0, vI a1, vI a2] T H (q_251 r0 a1 a2 pp T H) := by
  refine wp_enter e251 (Nat.le_of_ble_eq_true rfl) rfl ?_
  have f0 : wfr [(51, 999)] T H H := wfr.rf
  show wp _ _ 251 0 [(0, .ref r0), (1, vI a1), (2, vI a2)] [] _ H _
  have b139829 : 0 ≤ H r0 29 ∧ H r0 29 ≤ 20000 := hW.box g0 (n := 33) rfl (by decide) rfl
  refine wp_of e251 c251_0 (rw_iconst (pc' := 1) rfl ?_)
  refine wp_of e251 c251_1 (rw_istore_n (pc' := 2) (z := 0) (L' := [(3, vI 0), (0, .ref r0), (1, vI a1), (2, vI a2)]) rfl rfl rfl ?_)
  refine wp_of e251 c251_2 (rw_iconst (pc' := 3) rfl ?_)
  refine wp_of e251 c251_3 (rw_istore (pc' := 5) (z := 0) (L' := [(4, vI 0), (3, vI 0), (0, .ref r0), (1, vI a1), (2, vI a2)]) rfl rfl rfl ?_)
  have lp140203 : ∀ (n140204 : Nat) (v140206 : Int) (v140207 : Int) (H140208 : wq_H), WT T H140208 → wfr [(51, 999)] T H H140208 → (0 ≤ v140206 ∧ v140206 ≤ 20000) → ((-2147483648) ≤ v140207 ∧ v140207 ≤ 2147483647) → (20000 - v140206).toNat = n140204 → wp kt 1 251 5 [(4, vI v140206), (3, vI v140207), (0, .ref r0), (1, vI a1), (2, vI a2)] [] T H140208 (q_251 r0 a1 a2 pp T H) := by
    intro n140204
    induction n140204 using Nat.strongRecOn with
    | _ n140204 ih140205 =>
      intro v140206 v140207 H140208 w140209 f140210 b140211 b140212 m140213
      have f140214 := f0.tr f140210 rfl
      refine wp_of e251 c251_5 (rw_iload (pc' := 7) (z := v140206) rfl rfl ?_)
      refine wp_of e251 c251_7 (rw_aload_n (pc' := 8) (v := .ref r0) rfl rfl rfl ?_)
      have k140215 : H140208 r0 29 = H r0 29 := (f140210 r0 29 _ g0 rfl)
      refine wp_of e251 c251_8 (xg_I (pc' := 11) lf_9_422 w140209 g0 sh_42 (by decide) (by decide) ty_42_29 rfl rfl (fun b140216 b140217 => ?_))
      refine wp_of e251 c251_11 (rw_icmp_ge (p1 := 62) (p2 := 14) (by decide) rfl ⟨by omega, by omega⟩ ⟨by omega, by omega⟩ (fun c140218 => ?_) (fun c140218 => ?_))
      · refine wp_of e251 c251_62 (rw_iload_n (pc' := 63) (z := v140207) rfl rfl ?_)
        exact wp_ireturn e251 c251_63 rfl ⟨rfl, w140209, f140214, v140207, rfl, ⟨by omega, by omega⟩⟩
      · refine wp_of e251 c251_14 (rw_aload_n (pc' := 15) (v := .ref r0) rfl rfl rfl ?_)
        refine wp_of e251 c251_15 (rw_aload_n (pc' := 16) (v := .ref r0) rfl rfl rfl ?_)
        refine wp_of e251 c251_16 (xg_R (pc' := 19) lf_9_42 w140209 g0 sh_42 (by decide) (by decide) ty_42_30 rfl rfl (fun r140219 q140220 g140221 => ?_))
        refine wp_of e251 c251_19 (rw_iload (pc' := 21) (z := v140206) rfl rfl ?_)
        refine wp_of e251 c251_21 (xa_I (so := 0) (pc' := 22) w140209 g140221 sh_52 (by decide) (ty_52 _) (by omega) (by omega) rfl (fun b140222 b140223 => ?_))
        have k140224 : wLM H140208 r0 = wLM H r0 := (wLM_fr hW g0 f140210 rfl)
        have k140225 : H140208 r0 3 = H r0 3 := (f140210 r0 3 _ g0 rfl)
        have q140226 : H140208 r0 3 = (pp : Int) := k140225.trans qpp
        refine wp_of e251 c251_22 (xc_V (pc' := 25) (r := r0) (as := [vI (H140208 r140219 (v140206.toNat))]) (st := []) (lm_9_425) rfl rfl (Nat.le_of_ble_eq_true rfl) w140209 g0 sh_42 (by decide) rfl (by decide) (s_243 w140209 g0 ⟨by omega, by omega⟩ q140226 gpp (by omega)) (fun R140227 T140228 H140229 p140230 => ?_))
        obtain ⟨e140231, w140233, f140234, e140232⟩ := p140230
        subst e140231
        subst e140232
        have f140235 := f140214.tr f140234 rfl
        have f140236 := f140210.tr f140234 rfl
        show wp _ _ 251 25 [(4, vI v140206), (3, vI v140207), (0, .ref r0), (1, vI a1), (2, vI a2)] [] _ H140229 _
        refine wp_of e251 c251_25 (rw_iload_n (pc' := 26) (z := v140207) rfl rfl ?_)
        refine wp_of e251 c251_26 (rw_aload_n (pc' := 27) (v := .ref r0) rfl rfl rfl ?_)
        refine wp_of e251 c251_27 (xg_R (pc' := 30) lf_9_33 w140233 g0 sh_42 (by decide) (by decide) ty_42_25 rfl rfl (fun r140237 q140238 g140239 => ?_))
        refine wp_of e251 c251_30 (rw_bipush (pc' := 32) (z := 40) rfl (by decide) ?_)
        refine wp_of e251 c251_32 (rw_iload_n (pc' := 33) (z := a1) rfl rfl ?_)
        refine wp_of e251 c251_33 (rw_imul (pc' := 34) rfl ?_)
        refine wp_of e251 c251_34 (rw_aload_n (pc' := 35) (v := .ref r0) rfl rfl rfl ?_)
        refine wp_of e251 c251_35 (xg_R (pc' := 38) lf_9_39 w140233 g0 sh_42 (by decide) (by decide) ty_42_27 rfl rfl (fun r140240 q140241 g140242 => ?_))
        refine wp_of e251 c251_38 (rw_iload_n (pc' := 39) (z := a1) rfl rfl ?_)
        refine wp_of e251 c251_39 (xa_I (so := 0) (pc' := 40) w140233 g140242 sh_51 (by decide) (ty_51 _) (by omega) (by omega) rfl (fun b140243 b140244 => ?_))
        refine wp_of e251 c251_40 (rw_iadd (pc' := 41) rfl ?_)
        refine wp_of e251 c251_41 (xa_I (so := 0) (pc' := 42) w140233 g140239 sh_49 (by decide) (ty_49 _) (by omega) (by omega) rfl (fun b140245 b140246 => ?_))
        refine wp_of e251 c251_42 (rw_iload_n (pc' := 43) (z := a2) rfl rfl ?_)
        refine wp_of e251 c251_43 (xc_S (pc' := 46) (as := [vI (H140229 r140237 (((40 * a1) + (H140229 r140240 (a1.toNat))).toNat)), vI a2]) (st := [vI v140207]) (lm_9_346) rfl rfl (Nat.le_of_ble_eq_true rfl) rfl (by decide) (s_205 w140233 ⟨by omega, by omega⟩ ⟨by omega, by omega⟩) (fun R140247 T140248 H140249 p140250 => ?_))
        obtain ⟨e140251, e140253, z140254, e140252, b140255⟩ := p140250
        subst e140251
        subst e140252
        subst e140253
        show wp _ _ 251 46 [(4, vI v140206), (3, vI v140207), (0, .ref r0), (1, vI a1), (2, vI a2)] [vI z140254, vI v140207] _ H140229 _
        refine wp_of e251 c251_46 (rw_if_eq (p1 := 53) (p2 := 49) (by decide) rfl ⟨by omega, by omega⟩ (fun c140256 => ?_) (fun c140256 => ?_))
        · refine wp_of e251 c251_53 (rw_iconst (pc' := 54) rfl ?_)
          refine wp_of e251 c251_54 (rw_iadd (pc' := 55) rfl ?_)
          refine wp_of e251 c251_55 (rw_istore_n (pc' := 56) (z := v140207 + 0) (L' := [(3, vI (v140207 + 0)), (4, vI v140206), (0, .ref r0), (1, vI a1), (2, vI a2)]) rfl rfl rfl ?_)
          refine wp_of e251 c251_56 (rw_iinc (pc' := 59) (z := v140206) (L' := [(4, vI (v140206 + 1)), (3, vI (v140207 + 0)), (0, .ref r0), (1, vI a1), (2, vI a2)]) rfl rfl rfl rfl ?_)
          refine wp_of e251 c251_59 (rw_goto (p1 := 5) (by decide) ?_)
          exact wp_lc (ks := [4, 3, 0, 1, 2]) (wl_c rfl (wl_c rfl (wl_c rfl (wl_c rfl (wl_c rfl wl_n))))) rfl (by decide) (ih140205 _ (by omega) (v140206 + 1) (v140207 + 0) H140229 w140233 f140236 ⟨by omega, by omega⟩ ⟨by omega, by omega⟩ rfl)
        · refine wp_of e251 c251_49 (rw_iconst (pc' := 50) rfl ?_)
          refine wp_of e251 c251_50 (rw_goto (p1 := 54) (by decide) ?_)
          refine wp_of e251 c251_54 (rw_iaddw (pc' := 55) rfl ?_)
          obtain ⟨v140257, e140258⟩ : ∃ x : Int, x = wq_w (v140207 + 1) := ⟨_, rfl⟩
          rw [← e140258]
          have b140259 : -2147483648 ≤ v140257 ∧ v140257 ≤ 2147483647 := by
            rw [e140258]
            exact wI_w _
          refine wp_of e251 c251_55 (rw_istore_n (pc' := 56) (z := v140257) (L' := [(3, vI v140257), (4, vI v140206), (0, .ref r0), (1, vI a1), (2, vI a2)]) rfl rfl rfl ?_)
          refine wp_of e251 c251_56 (rw_iinc (pc' := 59) (z := v140206) (L' := [(4, vI (v140206 + 1)), (3, vI v140257), (0, .ref r0), (1, vI a1), (2, vI a2)]) rfl rfl rfl rfl ?_)
          refine wp_of e251 c251_59 (rw_goto (p1 := 5) (by decide) ?_)
          exact wp_lc (ks := [4, 3, 0, 1, 2]) (wl_c rfl (wl_c rfl (wl_c rfl (wl_c rfl (wl_c rfl wl_n))))) rfl (by decide) (ih140205 _ (by omega) (v140206 + 1) v140257 H140229 w140233 f140236 ⟨by omega, by omega⟩ ⟨by omega, by omega⟩ rfl)
  exact wp_lc (ks := [4, 3, 0, 1, 2]) (wl_c rfl (wl_c rfl (wl_c rfl (wl_c rfl (wl_c rfl wl_n))))) rfl (by decide) (lp140203 _ 0 0 H hW wfr.rf ⟨by omega, by omega⟩ ⟨by omega, by omega⟩ rfl)
/-! StrikeAwakeModel.times(II)I -/
theorem e250 : wq_en 250 = some (9, 4, false, some FieldType.int) := rfl
theorem c250_0 : mc_cd 250 0 = some (.aload_n 0, 1) := by decide +kernel
theorem c250_1 : mc_cd 250 1 = some (.iconst 0, 1) := by decide +kernel
theorem c250_2 : mc_cd 250 2 = some (.putfield 48, 3) := by decide +kernel
theorem c250_5 : mc_cd 250 5 = some (.aload_n 0, 1) := by decide +kernel
theorem c250_6 : mc_cd 250 6 = some (.aload_n 0, 1) := by decide +kernel
theorem c250_7 : mc_cd 250 7 = some (.iload_n 1, 1) := by decide +kernel
theorem c250_8 : mc_cd 250 8 = some (.invokevirtual 364, 3) := by decide +kernel
theorem c250_11 : mc_cd 250 11 = some (.ifCond .eq 15, 3) := by decide +kernel
theorem c250_14 : mc_cd 250 14 = some (.aload_n 0, 1) := by decide +kernel
theorem c250_15 : mc_cd 250 15 = some (.iload_n 2, 1) := by decide +kernel
theorem c250_16 : mc_cd 250 16 = some (.invokevirtual 373, 3) := by decide +kernel
theorem c250_19 : mc_cd 250 19 = some (.ifCond .eq 7, 3) := by decide +kernel
theorem c250_22 : mc_cd 250 22 = some (.iconst 1, 1) := by decide +kernel
theorem c250_23 : mc_cd 250 23 = some (.goto 4, 3) := by decide +kernel
theorem c250_26 : mc_cd 250 26 = some (.iconst 0, 1) := by decide +kernel
theorem c250_27 : mc_cd 250 27 = some (.invokevirtual 433, 3) := by decide +kernel
theorem c250_30 : mc_cd 250 30 = some (.istore_n 3, 1) := by decide +kernel
theorem c250_31 : mc_cd 250 31 = some (.iload_n 3, 1) := by decide +kernel
theorem c250_32 : mc_cd 250 32 = some (.ifCond .le 11, 3) := by decide +kernel
theorem c250_35 : mc_cd 250 35 = some (.aload_n 0, 1) := by decide +kernel
theorem c250_36 : mc_cd 250 36 = some (.iload_n 3, 1) := by decide +kernel
theorem c250_37 : mc_cd 250 37 = some (.invokevirtual 54, 3) := by decide +kernel
theorem c250_40 : mc_cd 250 40 = some (.goto 13, 3) := by decide +kernel
theorem c250_43 : mc_cd 250 43 = some (.aload_n 0, 1) := by decide +kernel
theorem c250_44 : mc_cd 250 44 = some (.aload_n 0, 1) := by decide +kernel
theorem c250_45 : mc_cd 250 45 = some (.iload_n 1, 1) := by decide +kernel
theorem c250_46 : mc_cd 250 46 = some (.iload_n 2, 1) := by decide +kernel
theorem c250_47 : mc_cd 250 47 = some (.invokevirtual 444, 3) := by decide +kernel
theorem c250_50 : mc_cd 250 50 = some (.invokevirtual 58, 3) := by decide +kernel
theorem c250_53 : mc_cd 250 53 = some (.ireturn, 1) := by decide +kernel
abbrev q_250 (r0 : Nat) (a1 : Int) (a2 : Int) (T : wq_T) (H : wq_H) : Option Value → wq_T → wq_H → Prop := fun r T' H' => T = T' ∧ WT T H' ∧ wfr [(42, 0), (42, 1), (42, 2), (42, 28), (42, 29), (51, 999), (52, 999)] T H H' ∧ ∃ z : Int, some (vI z) = r ∧ ((-2147483648) ≤ z ∧ z ≤ 2147483647) ∧ (wKI H' r0 = 1) ∧ (H' r0 2 = -1)
set_option maxHeartbeats 4000000 in
theorem s_250 {kt : Nat → Option mc_E} {T : wq_T} {H : wq_H} {r0 : Nat} {a1 : Int} {a2 : Int} (hW : WT T H) (g0 : T.2.2.2 r0 = some 42) (i1 : (-2147483648) ≤ a1 ∧ a1 ≤ 2147483647) (i2 : (-2147483648) ≤ a2 ∧ a2 ≤ 2147483647) (p0 : wKI H r0 = 1) : wpc kt 8 250 [.ref r0, vI a1, vI a2] T H (q_250 r0 a1 a2 T H) := by
  refine wp_enter e250 (Nat.le_of_ble_eq_true rfl) rfl ?_
  have f0 : wfr [(42, 0), (42, 1), (42, 2), (42, 28), (42, 29), (51, 999), (52, 999)] T H H := wfr.rf
  show wp _ _ 250 0 [(0, .ref r0), (1, vI a1), (2, vI a2)] [] _ H _
  refine wp_of e250 c250_0 (rw_aload_n (pc' := 1) (v := .ref r0) rfl rfl rfl ?_)
  refine wp_of e250 c250_1 (rw_iconst (pc' := 2) rfl ?_)
  refine wp_of e250 c250_2 (xp_I (pc' := 5) lf_9_48 hW g0 sh_42 (by decide) (by decide) ty_42_0 rfl rfl (by omega) (by omega) ⟨by omega, by omega⟩ rfl (fun H140405 e140406 w140407 => ?_))
  have f140408 := f0.put' e140406 g0 rfl
  have k140409 : H140405 r0 0 = 0 := wq_u_s e140406
  refine wp_of e250 c250_5 (rw_aload_n (pc' := 6) (v := .ref r0) rfl rfl rfl ?_)
  refine wp_of e250 c250_6 (rw_aload_n (pc' := 7) (v := .ref r0) rfl rfl rfl ?_)
  refine wp_of e250 c250_7 (rw_iload_n (pc' := 8) (z := a1) rfl rfl ?_)
  refine wp_of e250 c250_8 (xc_V (pc' := 11) (r := r0) (as := [vI a1]) (st := [.ref r0]) (lm_9_364) rfl rfl (Nat.le_of_ble_eq_true rfl) w140407 g0 sh_42 (by decide) rfl (by decide) (s_213 w140407 g0 ⟨by omega, by omega⟩) (fun R140410 T140411 H140412 p140413 => ?_))
  obtain ⟨e140414, e140416, z140418, e140415, b140419, p140417⟩ := p140413
  subst e140414
  subst e140415
  subst e140416
  show wp _ _ 250 11 [(0, .ref r0), (1, vI a1), (2, vI a2)] [vI z140418, .ref r0] _ H140405 _
  refine wp_of e250 c250_11 (rw_if_eq (p1 := 26) (p2 := 14) (by decide) rfl ⟨by omega, by omega⟩ (fun c140420 => ?_) (fun c140420 => ?_))
  · refine wp_of e250 c250_26 (rw_iconst (pc' := 27) rfl ?_)
    have k140421 : wKI H140405 r0 = wKI H r0 := (wKI_fr hW g0 ((wfr.rf (l := [(42, 0)])).put' e140406 g0 rfl) rfl)
    refine wp_of e250 c250_27 (xc_V (pc' := 30) (r := r0) (as := [vI 0]) (st := []) (lm_9_433) rfl rfl (Nat.le_of_ble_eq_true rfl) w140407 g0 sh_42 (by decide) rfl (by decide) (s_241 w140407 g0 ⟨by omega, by omega⟩ (by omega) (by omega)) (fun R140422 T140423 H140424 p140425 => ?_))
    obtain ⟨e140426, w140428, f140429, z140434, e140427, b140435, p140430, p140431, p140432, p140433⟩ := p140425
    subst e140426
    subst e140427
    have f140436 := f140408.tr f140429 rfl
    show wp _ _ 250 30 [(0, .ref r0), (1, vI a1), (2, vI a2)] [vI z140434] _ H140424 _
    refine wp_of e250 c250_30 (rw_istore_n (pc' := 31) (z := z140434) (L' := [(3, vI z140434), (0, .ref r0), (1, vI a1), (2, vI a2)]) rfl rfl rfl ?_)
    refine wp_of e250 c250_31 (rw_iload_n (pc' := 32) (z := z140434) rfl rfl ?_)
    refine wp_of e250 c250_32 (rw_if_le (p1 := 43) (p2 := 35) (by decide) rfl ⟨by omega, by omega⟩ (fun c140437 => ?_) (fun c140437 => ?_))
    · exfalso
      omega
    · refine wp_of e250 c250_35 (rw_aload_n (pc' := 36) (v := .ref r0) rfl rfl rfl ?_)
      refine wp_of e250 c250_36 (rw_iload_n (pc' := 37) (z := z140434) rfl rfl ?_)
      refine wp_of e250 c250_37 (xc_V (pc' := 40) (r := r0) (as := [vI z140434]) (st := []) (lm_9_54) rfl rfl (Nat.le_of_ble_eq_true rfl) w140428 g0 sh_42 (by decide) rfl (by decide) (s_170 w140428 g0 ⟨by omega, by omega⟩) (fun R140438 T140439 H140440 p140441 => ?_))
      obtain ⟨e140442, w140444, f140445, z140447, e140443, b140448, p140446⟩ := p140441
      subst e140442
      subst e140443
      have f140449 := f140436.tr f140445 rfl
      show wp _ _ 250 40 [(3, vI z140434), (0, .ref r0), (1, vI a1), (2, vI a2)] [vI z140447] _ H140440 _
      refine wp_of e250 c250_40 (rw_goto (p1 := 53) (by decide) ?_)
      have k140450 : wKI H140440 r0 = wKI H140424 r0 := (wKI_fr w140428 g0 f140445 rfl)
      exact wp_ireturn e250 c250_53 rfl ⟨rfl, w140444, f140449, z140447, rfl, ⟨by omega, by omega⟩, by omega, by omega⟩
  · refine wp_of e250 c250_14 (rw_aload_n (pc' := 15) (v := .ref r0) rfl rfl rfl ?_)
    refine wp_of e250 c250_15 (rw_iload_n (pc' := 16) (z := a2) rfl rfl ?_)
    refine wp_of e250 c250_16 (xc_V (pc' := 19) (r := r0) (as := [vI a2]) (st := [.ref r0]) (lm_9_373) rfl rfl (Nat.le_of_ble_eq_true rfl) w140407 g0 sh_42 (by decide) rfl (by decide) (s_218 w140407 g0 ⟨by omega, by omega⟩) (fun R140451 T140452 H140453 p140454 => ?_))
    obtain ⟨e140455, e140457, z140459, e140456, b140460, p140458⟩ := p140454
    subst e140455
    subst e140456
    subst e140457
    show wp _ _ 250 19 [(0, .ref r0), (1, vI a1), (2, vI a2)] [vI z140459, .ref r0] _ H140405 _
    refine wp_of e250 c250_19 (rw_if_eq (p1 := 26) (p2 := 22) (by decide) rfl ⟨by omega, by omega⟩ (fun c140461 => ?_) (fun c140461 => ?_))
    · refine wp_of e250 c250_26 (rw_iconst (pc' := 27) rfl ?_)
      have k140462 : wKI H140405 r0 = wKI H r0 := (wKI_fr hW g0 ((wfr.rf (l := [(42, 0)])).put' e140406 g0 rfl) rfl)
      refine wp_of e250 c250_27 (xc_V (pc' := 30) (r := r0) (as := [vI 0]) (st := []) (lm_9_433) rfl rfl (Nat.le_of_ble_eq_true rfl) w140407 g0 sh_42 (by decide) rfl (by decide) (s_241 w140407 g0 ⟨by omega, by omega⟩ (by omega) (by omega)) (fun R140463 T140464 H140465 p140466 => ?_))
      obtain ⟨e140467, w140469, f140470, z140475, e140468, b140476, p140471, p140472, p140473, p140474⟩ := p140466
      subst e140467
      subst e140468
      have f140477 := f140408.tr f140470 rfl
      show wp _ _ 250 30 [(0, .ref r0), (1, vI a1), (2, vI a2)] [vI z140475] _ H140465 _
      refine wp_of e250 c250_30 (rw_istore_n (pc' := 31) (z := z140475) (L' := [(3, vI z140475), (0, .ref r0), (1, vI a1), (2, vI a2)]) rfl rfl rfl ?_)
      refine wp_of e250 c250_31 (rw_iload_n (pc' := 32) (z := z140475) rfl rfl ?_)
      refine wp_of e250 c250_32 (rw_if_le (p1 := 43) (p2 := 35) (by decide) rfl ⟨by omega, by omega⟩ (fun c140478 => ?_) (fun c140478 => ?_))
      · exfalso
        omega
      · refine wp_of e250 c250_35 (rw_aload_n (pc' := 36) (v := .ref r0) rfl rfl rfl ?_)
        refine wp_of e250 c250_36 (rw_iload_n (pc' := 37) (z := z140475) rfl rfl ?_)
        refine wp_of e250 c250_37 (xc_V (pc' := 40) (r := r0) (as := [vI z140475]) (st := []) (lm_9_54) rfl rfl (Nat.le_of_ble_eq_true rfl) w140469 g0 sh_42 (by decide) rfl (by decide) (s_170 w140469 g0 ⟨by omega, by omega⟩) (fun R140479 T140480 H140481 p140482 => ?_))
        obtain ⟨e140483, w140485, f140486, z140488, e140484, b140489, p140487⟩ := p140482
        subst e140483
        subst e140484
        have f140490 := f140477.tr f140486 rfl
        show wp _ _ 250 40 [(3, vI z140475), (0, .ref r0), (1, vI a1), (2, vI a2)] [vI z140488] _ H140481 _
        refine wp_of e250 c250_40 (rw_goto (p1 := 53) (by decide) ?_)
        have k140491 : wKI H140481 r0 = wKI H140465 r0 := (wKI_fr w140469 g0 f140486 rfl)
        exact wp_ireturn e250 c250_53 rfl ⟨rfl, w140485, f140490, z140488, rfl, ⟨by omega, by omega⟩, by omega, by omega⟩
    · refine wp_of e250 c250_22 (rw_iconst (pc' := 23) rfl ?_)
      refine wp_of e250 c250_23 (rw_goto (p1 := 27) (by decide) ?_)
      have k140492 : wKI H140405 r0 = wKI H r0 := (wKI_fr hW g0 ((wfr.rf (l := [(42, 0)])).put' e140406 g0 rfl) rfl)
      refine wp_of e250 c250_27 (xc_V (pc' := 30) (r := r0) (as := [vI 1]) (st := []) (lm_9_433) rfl rfl (Nat.le_of_ble_eq_true rfl) w140407 g0 sh_42 (by decide) rfl (by decide) (s_241 w140407 g0 ⟨by omega, by omega⟩ (by omega) (by omega)) (fun R140493 T140494 H140495 p140496 => ?_))
      obtain ⟨e140497, w140499, f140500, z140505, e140498, b140506, p140501, p140502, p140503, p140504⟩ := p140496
      subst e140497
      subst e140498
      have f140507 := f140408.tr f140500 rfl
      show wp _ _ 250 30 [(0, .ref r0), (1, vI a1), (2, vI a2)] [vI z140505] _ H140495 _
      refine wp_of e250 c250_30 (rw_istore_n (pc' := 31) (z := z140505) (L' := [(3, vI z140505), (0, .ref r0), (1, vI a1), (2, vI a2)]) rfl rfl rfl ?_)
      refine wp_of e250 c250_31 (rw_iload_n (pc' := 32) (z := z140505) rfl rfl ?_)
      refine wp_of e250 c250_32 (rw_if_le (p1 := 43) (p2 := 35) (by decide) rfl ⟨by omega, by omega⟩ (fun c140508 => ?_) (fun c140508 => ?_))
      · refine wp_of e250 c250_43 (rw_aload_n (pc' := 44) (v := .ref r0) rfl rfl rfl ?_)
        refine wp_of e250 c250_44 (rw_aload_n (pc' := 45) (v := .ref r0) rfl rfl rfl ?_)
        refine wp_of e250 c250_45 (rw_iload_n (pc' := 46) (z := a1) rfl rfl ?_)
        refine wp_of e250 c250_46 (rw_iload_n (pc' := 47) (z := a2) rfl rfl ?_)
        have k140509 : H140495 r0 3 = H140405 r0 3 := (f140500 r0 3 _ g0 rfl)
        obtain ⟨r140510, q140511, g140512⟩ := (w140499.opt g0 (t' := 54) (n := 33) (j := 3) (p := 0) (q := 0) rfl (by decide) rfl).resolve_left (by omega)
        refine wp_of e250 c250_47 (xc_V (pc' := 50) (r := r0) (as := [vI a1, vI a2]) (st := [.ref r0]) (lm_9_444) rfl rfl (Nat.le_of_ble_eq_true rfl) w140499 g0 sh_42 (by decide) rfl (by decide) (s_251 w140499 g0 ⟨by omega, by omega⟩ ⟨by omega, by omega⟩ q140511 g140512 (by omega)) (fun R140513 T140514 H140515 p140516 => ?_))
        obtain ⟨e140517, w140519, f140520, z140521, e140518, b140522⟩ := p140516
        subst e140517
        subst e140518
        have f140523 := f140507.tr f140520 rfl
        show wp _ _ 250 50 [(3, vI z140505), (0, .ref r0), (1, vI a1), (2, vI a2)] [vI z140521, .ref r0] _ H140515 _
        refine wp_of e250 c250_50 (xc_V (pc' := 53) (r := r0) (as := [vI z140521]) (st := []) (lm_9_58) rfl rfl (Nat.le_of_ble_eq_true rfl) w140519 g0 sh_42 (by decide) rfl (by decide) (s_209 w140519 g0 ⟨by omega, by omega⟩) (fun R140524 T140525 H140526 p140527 => ?_))
        obtain ⟨e140528, w140530, f140531, z140533, e140529, b140534, p140532⟩ := p140527
        subst e140528
        subst e140529
        have f140535 := f140523.tr f140531 rfl
        show wp _ _ 250 53 [(3, vI z140505), (0, .ref r0), (1, vI a1), (2, vI a2)] [vI z140533] _ H140526 _
        have k140536 : wKI H140526 r0 = wKI H140495 r0 := ((wKI_fr w140519 g0 f140531 rfl).trans (wKI_fr w140499 g0 f140520 rfl))
        exact wp_ireturn e250 c250_53 rfl ⟨rfl, w140530, f140535, z140533, rfl, ⟨by omega, by omega⟩, by omega, by omega⟩
      · refine wp_of e250 c250_35 (rw_aload_n (pc' := 36) (v := .ref r0) rfl rfl rfl ?_)
        refine wp_of e250 c250_36 (rw_iload_n (pc' := 37) (z := z140505) rfl rfl ?_)
        refine wp_of e250 c250_37 (xc_V (pc' := 40) (r := r0) (as := [vI z140505]) (st := []) (lm_9_54) rfl rfl (Nat.le_of_ble_eq_true rfl) w140499 g0 sh_42 (by decide) rfl (by decide) (s_170 w140499 g0 ⟨by omega, by omega⟩) (fun R140537 T140538 H140539 p140540 => ?_))
        obtain ⟨e140541, w140543, f140544, z140546, e140542, b140547, p140545⟩ := p140540
        subst e140541
        subst e140542
        have f140548 := f140507.tr f140544 rfl
        show wp _ _ 250 40 [(3, vI z140505), (0, .ref r0), (1, vI a1), (2, vI a2)] [vI z140546] _ H140539 _
        refine wp_of e250 c250_40 (rw_goto (p1 := 53) (by decide) ?_)
        have k140549 : wKI H140539 r0 = wKI H140495 r0 := (wKI_fr w140499 g0 f140544 rfl)
        exact wp_ireturn e250 c250_53 rfl ⟨rfl, w140543, f140548, z140546, rfl, ⟨by omega, by omega⟩, by omega, by omega⟩
/-! StrikeAwakeModel.refusesSome(Z)I -/
theorem e253 : wq_en 253 = some (9, 3, false, some FieldType.int) := rfl
theorem c253_0 : mc_cd 253 0 = some (.aload_n 0, 1) := by decide +kernel
theorem c253_1 : mc_cd 253 1 = some (.iload_n 1, 1) := by decide +kernel
theorem c253_2 : mc_cd 253 2 = some (.invokevirtual 433, 3) := by decide +kernel
theorem c253_5 : mc_cd 253 5 = some (.istore_n 2, 1) := by decide +kernel
theorem c253_6 : mc_cd 253 6 = some (.iload_n 2, 1) := by decide +kernel
theorem c253_7 : mc_cd 253 7 = some (.ifCond .ne 15, 3) := by decide +kernel
theorem c253_10 : mc_cd 253 10 = some (.aload_n 0, 1) := by decide +kernel
theorem c253_11 : mc_cd 253 11 = some (.getfield 422, 3) := by decide +kernel
theorem c253_14 : mc_cd 253 14 = some (.ifCond .ne 8, 3) := by decide +kernel
theorem c253_17 : mc_cd 253 17 = some (.bipush 6, 2) := by decide +kernel
theorem c253_19 : mc_cd 253 19 = some (.goto 4, 3) := by decide +kernel
theorem c253_22 : mc_cd 253 22 = some (.iload_n 2, 1) := by decide +kernel
theorem c253_23 : mc_cd 253 23 = some (.ireturn, 1) := by decide +kernel
abbrev q_253 (r0 : Nat) (a1 : Int) (T : wq_T) (H : wq_H) : Option Value → wq_T → wq_H → Prop := fun r T' H' => T = T' ∧ WT T H' ∧ wfr [(42, 28), (42, 29), (51, 999), (52, 999)] T H H' ∧ ∃ z : Int, some (vI z) = r ∧ (0 ≤ z ∧ z ≤ 6) ∧ (z ≠ 0 ∨ a1 = 1) ∧ (z ≠ 0 ∨ wLM H' r0 ≤ 20000) ∧ (wKI H' r0 = 1) ∧ (z ≠ 0 ∨ (0 < H' r0 29 ∧ 0 < wLM H' r0))
set_option maxHeartbeats 4000000 in
theorem s_253 {kt : Nat → Option mc_E} {T : wq_T} {H : wq_H} {r0 : Nat} {a1 : Int} (hW : WT T H) (g0 : T.2.2.2 r0 = some 42) (i1 : 0 ≤ a1 ∧ a1 ≤ 1) (p0 : a1 = 0 ∨ H r0 3 ≠ -1) (p1 : wKI H r0 = 1) : wpc kt 8 253 [.ref r0, vI a1] T H (q_253 r0 a1 T H) := by
  refine wp_enter e253 (Nat.le_of_ble_eq_true rfl) rfl ?_
  have f0 : wfr [(42, 28), (42, 29), (51, 999), (52, 999)] T H H := wfr.rf
  show wp _ _ 253 0 [(0, .ref r0), (1, vI a1)] [] _ H _
  refine wp_of e253 c253_0 (rw_aload_n (pc' := 1) (v := .ref r0) rfl rfl rfl ?_)
  refine wp_of e253 c253_1 (rw_iload_n (pc' := 2) (z := a1) rfl rfl ?_)
  refine wp_of e253 c253_2 (xc_V (pc' := 5) (r := r0) (as := [vI a1]) (st := []) (lm_9_433) rfl rfl (Nat.le_of_ble_eq_true rfl) hW g0 sh_42 (by decide) rfl (by decide) (s_241 hW g0 ⟨by omega, by omega⟩ (by omega) (by omega)) (fun R140569 T140570 H140571 p140572 => ?_))
  obtain ⟨e140573, w140575, f140576, z140581, e140574, b140582, p140577, p140578, p140579, p140580⟩ := p140572
  subst e140573
  subst e140574
  have f140583 := f0.tr f140576 rfl
  show wp _ _ 253 5 [(0, .ref r0), (1, vI a1)] [vI z140581] _ H140571 _
  refine wp_of e253 c253_5 (rw_istore_n (pc' := 6) (z := z140581) (L' := [(2, vI z140581), (0, .ref r0), (1, vI a1)]) rfl rfl rfl ?_)
  refine wp_of e253 c253_6 (rw_iload_n (pc' := 7) (z := z140581) rfl rfl ?_)
  refine wp_of e253 c253_7 (rw_if_ne (p1 := 22) (p2 := 10) (by decide) rfl ⟨by omega, by omega⟩ (fun c140584 => ?_) (fun c140584 => ?_))
  · refine wp_of e253 c253_22 (rw_iload_n (pc' := 23) (z := z140581) rfl rfl ?_)
    exact wp_ireturn e253 c253_23 rfl ⟨rfl, w140575, f140583, z140581, rfl, ⟨by omega, by omega⟩, by omega, by omega, by omega, by omega⟩
  · refine wp_of e253 c253_10 (rw_aload_n (pc' := 11) (v := .ref r0) rfl rfl rfl ?_)
    refine wp_of e253 c253_11 (xg_I (pc' := 14) lf_9_422 w140575 g0 sh_42 (by decide) (by decide) ty_42_29 rfl rfl (fun b140585 b140586 => ?_))
    refine wp_of e253 c253_14 (rw_if_ne (p1 := 22) (p2 := 17) (by decide) rfl ⟨by omega, by omega⟩ (fun c140587 => ?_) (fun c140587 => ?_))
    · refine wp_of e253 c253_22 (rw_iload_n (pc' := 23) (z := z140581) rfl rfl ?_)
      exact wp_ireturn e253 c253_23 rfl ⟨rfl, w140575, f140583, z140581, rfl, ⟨by omega, by omega⟩, by omega, by omega, by omega, by omega⟩
    · refine wp_of e253 c253_17 (rw_bipush (pc' := 19) (z := 6) rfl (by decide) ?_)
      refine wp_of e253 c253_19 (rw_goto (p1 := 23) (by decide) ?_)
      exact wp_ireturn e253 c253_23 rfl ⟨rfl, w140575, f140583, 6, rfl, ⟨by omega, by omega⟩, by omega, by omega, by omega, by omega⟩
/-! StrikeAwakeModel.sure(II)I -/
theorem e252 : wq_en 252 = some (9, 5, false, some FieldType.int) := rfl
theorem c252_0 : mc_cd 252 0 = some (.aload_n 0, 1) := by decide +kernel
theorem c252_1 : mc_cd 252 1 = some (.iconst 0, 1) := by decide +kernel
theorem c252_2 : mc_cd 252 2 = some (.putfield 48, 3) := by decide +kernel
theorem c252_5 : mc_cd 252 5 = some (.aload_n 0, 1) := by decide +kernel
theorem c252_6 : mc_cd 252 6 = some (.aload_n 0, 1) := by decide +kernel
theorem c252_7 : mc_cd 252 7 = some (.iload_n 1, 1) := by decide +kernel
theorem c252_8 : mc_cd 252 8 = some (.invokevirtual 364, 3) := by decide +kernel
theorem c252_11 : mc_cd 252 11 = some (.ifCond .eq 15, 3) := by decide +kernel
theorem c252_14 : mc_cd 252 14 = some (.aload_n 0, 1) := by decide +kernel
theorem c252_15 : mc_cd 252 15 = some (.iload_n 2, 1) := by decide +kernel
theorem c252_16 : mc_cd 252 16 = some (.invokevirtual 373, 3) := by decide +kernel
theorem c252_19 : mc_cd 252 19 = some (.ifCond .eq 7, 3) := by decide +kernel
theorem c252_22 : mc_cd 252 22 = some (.iconst 1, 1) := by decide +kernel
theorem c252_23 : mc_cd 252 23 = some (.goto 4, 3) := by decide +kernel
theorem c252_26 : mc_cd 252 26 = some (.iconst 0, 1) := by decide +kernel
theorem c252_27 : mc_cd 252 27 = some (.invokevirtual 447, 3) := by decide +kernel
theorem c252_30 : mc_cd 252 30 = some (.istore_n 3, 1) := by decide +kernel
theorem c252_31 : mc_cd 252 31 = some (.iload_n 3, 1) := by decide +kernel
theorem c252_32 : mc_cd 252 32 = some (.ifCond .le 9, 3) := by decide +kernel
theorem c252_35 : mc_cd 252 35 = some (.aload_n 0, 1) := by decide +kernel
theorem c252_36 : mc_cd 252 36 = some (.iload_n 3, 1) := by decide +kernel
theorem c252_37 : mc_cd 252 37 = some (.invokevirtual 54, 3) := by decide +kernel
theorem c252_40 : mc_cd 252 40 = some (.ireturn, 1) := by decide +kernel
theorem c252_41 : mc_cd 252 41 = some (.aload_n 0, 1) := by decide +kernel
theorem c252_42 : mc_cd 252 42 = some (.iload_n 1, 1) := by decide +kernel
theorem c252_43 : mc_cd 252 43 = some (.iload_n 2, 1) := by decide +kernel
theorem c252_44 : mc_cd 252 44 = some (.invokevirtual 444, 3) := by decide +kernel
theorem c252_47 : mc_cd 252 47 = some (.istore 4, 2) := by decide +kernel
theorem c252_49 : mc_cd 252 49 = some (.aload_n 0, 1) := by decide +kernel
theorem c252_50 : mc_cd 252 50 = some (.iload 4, 2) := by decide +kernel
theorem c252_52 : mc_cd 252 52 = some (.aload_n 0, 1) := by decide +kernel
theorem c252_53 : mc_cd 252 53 = some (.getfield 422, 3) := by decide +kernel
theorem c252_56 : mc_cd 252 56 = some (.if_icmp .ne 7, 3) := by decide +kernel
theorem c252_59 : mc_cd 252 59 = some (.iconst 2, 1) := by decide +kernel
theorem c252_60 : mc_cd 252 60 = some (.goto 13, 3) := by decide +kernel
theorem c252_63 : mc_cd 252 63 = some (.iload 4, 2) := by decide +kernel
theorem c252_65 : mc_cd 252 65 = some (.ifCond .ne 7, 3) := by decide +kernel
theorem c252_68 : mc_cd 252 68 = some (.iconst 0, 1) := by decide +kernel
theorem c252_69 : mc_cd 252 69 = some (.goto 4, 3) := by decide +kernel
theorem c252_72 : mc_cd 252 72 = some (.iconst 1, 1) := by decide +kernel
theorem c252_73 : mc_cd 252 73 = some (.invokevirtual 58, 3) := by decide +kernel
theorem c252_76 : mc_cd 252 76 = some (.ireturn, 1) := by decide +kernel
abbrev q_252 (r0 : Nat) (a1 : Int) (a2 : Int) (T : wq_T) (H : wq_H) : Option Value → wq_T → wq_H → Prop := fun r T' H' => T = T' ∧ WT T H' ∧ wfr [(42, 0), (42, 1), (42, 2), (42, 28), (42, 29), (51, 999), (52, 999)] T H H' ∧ ∃ z : Int, some (vI z) = r ∧ ((-2147483648) ≤ z ∧ z ≤ 2147483647) ∧ (wKI H' r0 = 1) ∧ (H' r0 2 = -1)
set_option maxHeartbeats 4000000 in
theorem s_252 {kt : Nat → Option mc_E} {T : wq_T} {H : wq_H} {r0 : Nat} {a1 : Int} {a2 : Int} (hW : WT T H) (g0 : T.2.2.2 r0 = some 42) (i1 : (-2147483648) ≤ a1 ∧ a1 ≤ 2147483647) (i2 : (-2147483648) ≤ a2 ∧ a2 ≤ 2147483647) (p0 : wKI H r0 = 1) : wpc kt 9 252 [.ref r0, vI a1, vI a2] T H (q_252 r0 a1 a2 T H) := by
  refine wp_enter e252 (Nat.le_of_ble_eq_true rfl) rfl ?_
  have f0 : wfr [(42, 0), (42, 1), (42, 2), (42, 28), (42, 29), (51, 999), (52, 999)] T H H := wfr.rf
  show wp _ _ 252 0 [(0, .ref r0), (1, vI a1), (2, vI a2)] [] _ H _
  refine wp_of e252 c252_0 (rw_aload_n (pc' := 1) (v := .ref r0) rfl rfl rfl ?_)
  refine wp_of e252 c252_1 (rw_iconst (pc' := 2) rfl ?_)
  refine wp_of e252 c252_2 (xp_I (pc' := 5) lf_9_48 hW g0 sh_42 (by decide) (by decide) ty_42_0 rfl rfl (by omega) (by omega) ⟨by omega, by omega⟩ rfl (fun H140764 e140765 w140766 => ?_))
  have f140767 := f0.put' e140765 g0 rfl
  have k140768 : H140764 r0 0 = 0 := wq_u_s e140765
  refine wp_of e252 c252_5 (rw_aload_n (pc' := 6) (v := .ref r0) rfl rfl rfl ?_)
  refine wp_of e252 c252_6 (rw_aload_n (pc' := 7) (v := .ref r0) rfl rfl rfl ?_)
  refine wp_of e252 c252_7 (rw_iload_n (pc' := 8) (z := a1) rfl rfl ?_)
  refine wp_of e252 c252_8 (xc_V (pc' := 11) (r := r0) (as := [vI a1]) (st := [.ref r0]) (lm_9_364) rfl rfl (Nat.le_of_ble_eq_true rfl) w140766 g0 sh_42 (by decide) rfl (by decide) (s_213 w140766 g0 ⟨by omega, by omega⟩) (fun R140769 T140770 H140771 p140772 => ?_))
  obtain ⟨e140773, e140775, z140777, e140774, b140778, p140776⟩ := p140772
  subst e140773
  subst e140774
  subst e140775
  show wp _ _ 252 11 [(0, .ref r0), (1, vI a1), (2, vI a2)] [vI z140777, .ref r0] _ H140764 _
  refine wp_of e252 c252_11 (rw_if_eq (p1 := 26) (p2 := 14) (by decide) rfl ⟨by omega, by omega⟩ (fun c140779 => ?_) (fun c140779 => ?_))
  · refine wp_of e252 c252_26 (rw_iconst (pc' := 27) rfl ?_)
    have k140780 : wKI H140764 r0 = wKI H r0 := (wKI_fr hW g0 ((wfr.rf (l := [(42, 0)])).put' e140765 g0 rfl) rfl)
    refine wp_of e252 c252_27 (xc_V (pc' := 30) (r := r0) (as := [vI 0]) (st := []) (lm_9_447) rfl rfl (Nat.le_of_ble_eq_true rfl) w140766 g0 sh_42 (by decide) rfl (by decide) (s_253 w140766 g0 ⟨by omega, by omega⟩ (by omega) (by omega)) (fun R140781 T140782 H140783 p140784 => ?_))
    obtain ⟨e140785, w140787, f140788, z140793, e140786, b140794, p140789, p140790, p140791, p140792⟩ := p140784
    subst e140785
    subst e140786
    have f140795 := f140767.tr f140788 rfl
    show wp _ _ 252 30 [(0, .ref r0), (1, vI a1), (2, vI a2)] [vI z140793] _ H140783 _
    refine wp_of e252 c252_30 (rw_istore_n (pc' := 31) (z := z140793) (L' := [(3, vI z140793), (0, .ref r0), (1, vI a1), (2, vI a2)]) rfl rfl rfl ?_)
    refine wp_of e252 c252_31 (rw_iload_n (pc' := 32) (z := z140793) rfl rfl ?_)
    refine wp_of e252 c252_32 (rw_if_le (p1 := 41) (p2 := 35) (by decide) rfl ⟨by omega, by omega⟩ (fun c140796 => ?_) (fun c140796 => ?_))
    · exfalso
      omega
    · refine wp_of e252 c252_35 (rw_aload_n (pc' := 36) (v := .ref r0) rfl rfl rfl ?_)
      refine wp_of e252 c252_36 (rw_iload_n (pc' := 37) (z := z140793) rfl rfl ?_)
      refine wp_of e252 c252_37 (xc_V (pc' := 40) (r := r0) (as := [vI z140793]) (st := []) (lm_9_54) rfl rfl (Nat.le_of_ble_eq_true rfl) w140787 g0 sh_42 (by decide) rfl (by decide) (s_170 w140787 g0 ⟨by omega, by omega⟩) (fun R140797 T140798 H140799 p140800 => ?_))
      obtain ⟨e140801, w140803, f140804, z140806, e140802, b140807, p140805⟩ := p140800
      subst e140801
      subst e140802
      have f140808 := f140795.tr f140804 rfl
      show wp _ _ 252 40 [(3, vI z140793), (0, .ref r0), (1, vI a1), (2, vI a2)] [vI z140806] _ H140799 _
      have k140809 : wKI H140799 r0 = wKI H140783 r0 := (wKI_fr w140787 g0 f140804 rfl)
      exact wp_ireturn e252 c252_40 rfl ⟨rfl, w140803, f140808, z140806, rfl, ⟨by omega, by omega⟩, by omega, by omega⟩
  · refine wp_of e252 c252_14 (rw_aload_n (pc' := 15) (v := .ref r0) rfl rfl rfl ?_)
    refine wp_of e252 c252_15 (rw_iload_n (pc' := 16) (z := a2) rfl rfl ?_)
    refine wp_of e252 c252_16 (xc_V (pc' := 19) (r := r0) (as := [vI a2]) (st := [.ref r0]) (lm_9_373) rfl rfl (Nat.le_of_ble_eq_true rfl) w140766 g0 sh_42 (by decide) rfl (by decide) (s_218 w140766 g0 ⟨by omega, by omega⟩) (fun R140810 T140811 H140812 p140813 => ?_))
    obtain ⟨e140814, e140816, z140818, e140815, b140819, p140817⟩ := p140813
    subst e140814
    subst e140815
    subst e140816
    show wp _ _ 252 19 [(0, .ref r0), (1, vI a1), (2, vI a2)] [vI z140818, .ref r0] _ H140764 _
    refine wp_of e252 c252_19 (rw_if_eq (p1 := 26) (p2 := 22) (by decide) rfl ⟨by omega, by omega⟩ (fun c140820 => ?_) (fun c140820 => ?_))
    · refine wp_of e252 c252_26 (rw_iconst (pc' := 27) rfl ?_)
      have k140821 : wKI H140764 r0 = wKI H r0 := (wKI_fr hW g0 ((wfr.rf (l := [(42, 0)])).put' e140765 g0 rfl) rfl)
      refine wp_of e252 c252_27 (xc_V (pc' := 30) (r := r0) (as := [vI 0]) (st := []) (lm_9_447) rfl rfl (Nat.le_of_ble_eq_true rfl) w140766 g0 sh_42 (by decide) rfl (by decide) (s_253 w140766 g0 ⟨by omega, by omega⟩ (by omega) (by omega)) (fun R140822 T140823 H140824 p140825 => ?_))
      obtain ⟨e140826, w140828, f140829, z140834, e140827, b140835, p140830, p140831, p140832, p140833⟩ := p140825
      subst e140826
      subst e140827
      have f140836 := f140767.tr f140829 rfl
      show wp _ _ 252 30 [(0, .ref r0), (1, vI a1), (2, vI a2)] [vI z140834] _ H140824 _
      refine wp_of e252 c252_30 (rw_istore_n (pc' := 31) (z := z140834) (L' := [(3, vI z140834), (0, .ref r0), (1, vI a1), (2, vI a2)]) rfl rfl rfl ?_)
      refine wp_of e252 c252_31 (rw_iload_n (pc' := 32) (z := z140834) rfl rfl ?_)
      refine wp_of e252 c252_32 (rw_if_le (p1 := 41) (p2 := 35) (by decide) rfl ⟨by omega, by omega⟩ (fun c140837 => ?_) (fun c140837 => ?_))
      · exfalso
        omega
      · refine wp_of e252 c252_35 (rw_aload_n (pc' := 36) (v := .ref r0) rfl rfl rfl ?_)
        refine wp_of e252 c252_36 (rw_iload_n (pc' := 37) (z := z140834) rfl rfl ?_)
        refine wp_of e252 c252_37 (xc_V (pc' := 40) (r := r0) (as := [vI z140834]) (st := []) (lm_9_54) rfl rfl (Nat.le_of_ble_eq_true rfl) w140828 g0 sh_42 (by decide) rfl (by decide) (s_170 w140828 g0 ⟨by omega, by omega⟩) (fun R140838 T140839 H140840 p140841 => ?_))
        obtain ⟨e140842, w140844, f140845, z140847, e140843, b140848, p140846⟩ := p140841
        subst e140842
        subst e140843
        have f140849 := f140836.tr f140845 rfl
        show wp _ _ 252 40 [(3, vI z140834), (0, .ref r0), (1, vI a1), (2, vI a2)] [vI z140847] _ H140840 _
        have k140850 : wKI H140840 r0 = wKI H140824 r0 := (wKI_fr w140828 g0 f140845 rfl)
        exact wp_ireturn e252 c252_40 rfl ⟨rfl, w140844, f140849, z140847, rfl, ⟨by omega, by omega⟩, by omega, by omega⟩
    · refine wp_of e252 c252_22 (rw_iconst (pc' := 23) rfl ?_)
      refine wp_of e252 c252_23 (rw_goto (p1 := 27) (by decide) ?_)
      have k140851 : wKI H140764 r0 = wKI H r0 := (wKI_fr hW g0 ((wfr.rf (l := [(42, 0)])).put' e140765 g0 rfl) rfl)
      refine wp_of e252 c252_27 (xc_V (pc' := 30) (r := r0) (as := [vI 1]) (st := []) (lm_9_447) rfl rfl (Nat.le_of_ble_eq_true rfl) w140766 g0 sh_42 (by decide) rfl (by decide) (s_253 w140766 g0 ⟨by omega, by omega⟩ (by omega) (by omega)) (fun R140852 T140853 H140854 p140855 => ?_))
      obtain ⟨e140856, w140858, f140859, z140864, e140857, b140865, p140860, p140861, p140862, p140863⟩ := p140855
      subst e140856
      subst e140857
      have f140866 := f140767.tr f140859 rfl
      show wp _ _ 252 30 [(0, .ref r0), (1, vI a1), (2, vI a2)] [vI z140864] _ H140854 _
      refine wp_of e252 c252_30 (rw_istore_n (pc' := 31) (z := z140864) (L' := [(3, vI z140864), (0, .ref r0), (1, vI a1), (2, vI a2)]) rfl rfl rfl ?_)
      refine wp_of e252 c252_31 (rw_iload_n (pc' := 32) (z := z140864) rfl rfl ?_)
      refine wp_of e252 c252_32 (rw_if_le (p1 := 41) (p2 := 35) (by decide) rfl ⟨by omega, by omega⟩ (fun c140867 => ?_) (fun c140867 => ?_))
      · refine wp_of e252 c252_41 (rw_aload_n (pc' := 42) (v := .ref r0) rfl rfl rfl ?_)
        refine wp_of e252 c252_42 (rw_iload_n (pc' := 43) (z := a1) rfl rfl ?_)
        refine wp_of e252 c252_43 (rw_iload_n (pc' := 44) (z := a2) rfl rfl ?_)
        have k140868 : H140854 r0 3 = H140764 r0 3 := (f140859 r0 3 _ g0 rfl)
        obtain ⟨r140869, q140870, g140871⟩ := (w140858.opt g0 (t' := 54) (n := 33) (j := 3) (p := 0) (q := 0) rfl (by decide) rfl).resolve_left (by omega)
        refine wp_of e252 c252_44 (xc_V (pc' := 47) (r := r0) (as := [vI a1, vI a2]) (st := []) (lm_9_444) rfl rfl (Nat.le_of_ble_eq_true rfl) w140858 g0 sh_42 (by decide) rfl (by decide) (s_251 w140858 g0 ⟨by omega, by omega⟩ ⟨by omega, by omega⟩ q140870 g140871 (by omega)) (fun R140872 T140873 H140874 p140875 => ?_))
        obtain ⟨e140876, w140878, f140879, z140880, e140877, b140881⟩ := p140875
        subst e140876
        subst e140877
        have f140882 := f140866.tr f140879 rfl
        show wp _ _ 252 47 [(3, vI z140864), (0, .ref r0), (1, vI a1), (2, vI a2)] [vI z140880] _ H140874 _
        refine wp_of e252 c252_47 (rw_istore (pc' := 49) (z := z140880) (L' := [(4, vI z140880), (3, vI z140864), (0, .ref r0), (1, vI a1), (2, vI a2)]) rfl rfl rfl ?_)
        refine wp_of e252 c252_49 (rw_aload_n (pc' := 50) (v := .ref r0) rfl rfl rfl ?_)
        refine wp_of e252 c252_50 (rw_iload (pc' := 52) (z := z140880) rfl rfl ?_)
        refine wp_of e252 c252_52 (rw_aload_n (pc' := 53) (v := .ref r0) rfl rfl rfl ?_)
        have k140883 : H140874 r0 29 = H140854 r0 29 := (f140879 r0 29 _ g0 rfl)
        refine wp_of e252 c252_53 (xg_I (pc' := 56) lf_9_422 w140878 g0 sh_42 (by decide) (by decide) ty_42_29 rfl rfl (fun b140884 b140885 => ?_))
        refine wp_of e252 c252_56 (rw_icmp_ne (p1 := 63) (p2 := 59) (by decide) rfl ⟨by omega, by omega⟩ ⟨by omega, by omega⟩ (fun c140886 => ?_) (fun c140886 => ?_))
        · refine wp_of e252 c252_63 (rw_iload (pc' := 65) (z := z140880) rfl rfl ?_)
          refine wp_of e252 c252_65 (rw_if_ne (p1 := 72) (p2 := 68) (by decide) rfl ⟨by omega, by omega⟩ (fun c140887 => ?_) (fun c140887 => ?_))
          · refine wp_of e252 c252_72 (rw_iconst (pc' := 73) rfl ?_)
            refine wp_of e252 c252_73 (xc_V (pc' := 76) (r := r0) (as := [vI 1]) (st := []) (lm_9_58) rfl rfl (Nat.le_of_ble_eq_true rfl) w140878 g0 sh_42 (by decide) rfl (by decide) (s_209 w140878 g0 ⟨by omega, by omega⟩) (fun R140888 T140889 H140890 p140891 => ?_))
            obtain ⟨e140892, w140894, f140895, z140897, e140893, b140898, p140896⟩ := p140891
            subst e140892
            subst e140893
            have f140899 := f140882.tr f140895 rfl
            show wp _ _ 252 76 [(4, vI z140880), (3, vI z140864), (0, .ref r0), (1, vI a1), (2, vI a2)] [vI z140897] _ H140890 _
            have k140900 : wKI H140890 r0 = wKI H140854 r0 := ((wKI_fr w140878 g0 f140895 rfl).trans (wKI_fr w140858 g0 f140879 rfl))
            exact wp_ireturn e252 c252_76 rfl ⟨rfl, w140894, f140899, z140897, rfl, ⟨by omega, by omega⟩, by omega, by omega⟩
          · refine wp_of e252 c252_68 (rw_iconst (pc' := 69) rfl ?_)
            refine wp_of e252 c252_69 (rw_goto (p1 := 73) (by decide) ?_)
            refine wp_of e252 c252_73 (xc_V (pc' := 76) (r := r0) (as := [vI 0]) (st := []) (lm_9_58) rfl rfl (Nat.le_of_ble_eq_true rfl) w140878 g0 sh_42 (by decide) rfl (by decide) (s_209 w140878 g0 ⟨by omega, by omega⟩) (fun R140901 T140902 H140903 p140904 => ?_))
            obtain ⟨e140905, w140907, f140908, z140910, e140906, b140911, p140909⟩ := p140904
            subst e140905
            subst e140906
            have f140912 := f140882.tr f140908 rfl
            show wp _ _ 252 76 [(4, vI z140880), (3, vI z140864), (0, .ref r0), (1, vI a1), (2, vI a2)] [vI z140910] _ H140903 _
            have k140913 : wKI H140903 r0 = wKI H140854 r0 := ((wKI_fr w140878 g0 f140908 rfl).trans (wKI_fr w140858 g0 f140879 rfl))
            exact wp_ireturn e252 c252_76 rfl ⟨rfl, w140907, f140912, z140910, rfl, ⟨by omega, by omega⟩, by omega, by omega⟩
        · refine wp_of e252 c252_59 (rw_iconst (pc' := 60) rfl ?_)
          refine wp_of e252 c252_60 (rw_goto (p1 := 73) (by decide) ?_)
          refine wp_of e252 c252_73 (xc_V (pc' := 76) (r := r0) (as := [vI 2]) (st := []) (lm_9_58) rfl rfl (Nat.le_of_ble_eq_true rfl) w140878 g0 sh_42 (by decide) rfl (by decide) (s_209 w140878 g0 ⟨by omega, by omega⟩) (fun R140914 T140915 H140916 p140917 => ?_))
          obtain ⟨e140918, w140920, f140921, z140923, e140919, b140924, p140922⟩ := p140917
          subst e140918
          subst e140919
          have f140925 := f140882.tr f140921 rfl
          show wp _ _ 252 76 [(4, vI z140880), (3, vI z140864), (0, .ref r0), (1, vI a1), (2, vI a2)] [vI z140923] _ H140916 _
          have k140926 : wKI H140916 r0 = wKI H140854 r0 := ((wKI_fr w140878 g0 f140921 rfl).trans (wKI_fr w140858 g0 f140879 rfl))
          exact wp_ireturn e252 c252_76 rfl ⟨rfl, w140920, f140925, z140923, rfl, ⟨by omega, by omega⟩, by omega, by omega⟩
      · refine wp_of e252 c252_35 (rw_aload_n (pc' := 36) (v := .ref r0) rfl rfl rfl ?_)
        refine wp_of e252 c252_36 (rw_iload_n (pc' := 37) (z := z140864) rfl rfl ?_)
        refine wp_of e252 c252_37 (xc_V (pc' := 40) (r := r0) (as := [vI z140864]) (st := []) (lm_9_54) rfl rfl (Nat.le_of_ble_eq_true rfl) w140858 g0 sh_42 (by decide) rfl (by decide) (s_170 w140858 g0 ⟨by omega, by omega⟩) (fun R140927 T140928 H140929 p140930 => ?_))
        obtain ⟨e140931, w140933, f140934, z140936, e140932, b140937, p140935⟩ := p140930
        subst e140931
        subst e140932
        have f140938 := f140866.tr f140934 rfl
        show wp _ _ 252 40 [(3, vI z140864), (0, .ref r0), (1, vI a1), (2, vI a2)] [vI z140936] _ H140929 _
        have k140939 : wKI H140929 r0 = wKI H140854 r0 := (wKI_fr w140858 g0 f140934 rfl)
        exact wp_ireturn e252 c252_40 rfl ⟨rfl, w140933, f140938, z140936, rfl, ⟨by omega, by omega⟩, by omega, by omega⟩
/-! StrikeAwakeModel.surely(IZ)I -/
theorem e254 : wq_en 254 = some (9, 6, false, some FieldType.int) := rfl
theorem c254_0 : mc_cd 254 0 = some (.aload_n 0, 1) := by decide +kernel
theorem c254_1 : mc_cd 254 1 = some (.iconst 0, 1) := by decide +kernel
theorem c254_2 : mc_cd 254 2 = some (.putfield 48, 3) := by decide +kernel
theorem c254_5 : mc_cd 254 5 = some (.aload_n 0, 1) := by decide +kernel
theorem c254_6 : mc_cd 254 6 = some (.aload_n 0, 1) := by decide +kernel
theorem c254_7 : mc_cd 254 7 = some (.iload_n 1, 1) := by decide +kernel
theorem c254_8 : mc_cd 254 8 = some (.invokevirtual 373, 3) := by decide +kernel
theorem c254_11 : mc_cd 254 11 = some (.invokevirtual 447, 3) := by decide +kernel
theorem c254_14 : mc_cd 254 14 = some (.istore_n 3, 1) := by decide +kernel
theorem c254_15 : mc_cd 254 15 = some (.iload_n 3, 1) := by decide +kernel
theorem c254_16 : mc_cd 254 16 = some (.ifCond .le 9, 3) := by decide +kernel
theorem c254_19 : mc_cd 254 19 = some (.aload_n 0, 1) := by decide +kernel
theorem c254_20 : mc_cd 254 20 = some (.iload_n 3, 1) := by decide +kernel
theorem c254_21 : mc_cd 254 21 = some (.invokevirtual 54, 3) := by decide +kernel
theorem c254_24 : mc_cd 254 24 = some (.ireturn, 1) := by decide +kernel
theorem c254_25 : mc_cd 254 25 = some (.iconst 0, 1) := by decide +kernel
theorem c254_26 : mc_cd 254 26 = some (.istore 4, 2) := by decide +kernel
theorem c254_28 : mc_cd 254 28 = some (.iconst 0, 1) := by decide +kernel
theorem c254_29 : mc_cd 254 29 = some (.istore 5, 2) := by decide +kernel
theorem c254_31 : mc_cd 254 31 = some (.iload 5, 2) := by decide +kernel
theorem c254_33 : mc_cd 254 33 = some (.aload_n 0, 1) := by decide +kernel
theorem c254_34 : mc_cd 254 34 = some (.getfield 337, 3) := by decide +kernel
theorem c254_37 : mc_cd 254 37 = some (.getfield 188, 3) := by decide +kernel
theorem c254_40 : mc_cd 254 40 = some (.if_icmp .ge 44, 3) := by decide +kernel
theorem c254_43 : mc_cd 254 43 = some (.iload 4, 2) := by decide +kernel
theorem c254_45 : mc_cd 254 45 = some (.aload_n 0, 1) := by decide +kernel
theorem c254_46 : mc_cd 254 46 = some (.iload 5, 2) := by decide +kernel
theorem c254_48 : mc_cd 254 48 = some (.iload_n 1, 1) := by decide +kernel
theorem c254_49 : mc_cd 254 49 = some (.invokevirtual 444, 3) := by decide +kernel
theorem c254_52 : mc_cd 254 52 = some (.iload_n 2, 1) := by decide +kernel
theorem c254_53 : mc_cd 254 53 = some (.ifCond .eq 10, 3) := by decide +kernel
theorem c254_56 : mc_cd 254 56 = some (.aload_n 0, 1) := by decide +kernel
theorem c254_57 : mc_cd 254 57 = some (.getfield 422, 3) := by decide +kernel
theorem c254_60 : mc_cd 254 60 = some (.goto 4, 3) := by decide +kernel
theorem c254_63 : mc_cd 254 63 = some (.iconst 0, 1) := by decide +kernel
theorem c254_64 : mc_cd 254 64 = some (.if_icmp .ne 10, 3) := by decide +kernel
theorem c254_67 : mc_cd 254 67 = some (.iconst 1, 1) := by decide +kernel
theorem c254_68 : mc_cd 254 68 = some (.iload 5, 2) := by decide +kernel
theorem c254_70 : mc_cd 254 70 = some (.ishl, 1) := by decide +kernel
theorem c254_71 : mc_cd 254 71 = some (.goto 4, 3) := by decide +kernel
theorem c254_74 : mc_cd 254 74 = some (.iconst 0, 1) := by decide +kernel
theorem c254_75 : mc_cd 254 75 = some (.ior, 1) := by decide +kernel
theorem c254_76 : mc_cd 254 76 = some (.istore 4, 2) := by decide +kernel
theorem c254_78 : mc_cd 254 78 = some (.iinc 5 1, 3) := by decide +kernel
theorem c254_81 : mc_cd 254 81 = some (.goto (-50), 3) := by decide +kernel
theorem c254_84 : mc_cd 254 84 = some (.aload_n 0, 1) := by decide +kernel
theorem c254_85 : mc_cd 254 85 = some (.iload 4, 2) := by decide +kernel
theorem c254_87 : mc_cd 254 87 = some (.invokevirtual 58, 3) := by decide +kernel
theorem c254_90 : mc_cd 254 90 = some (.ireturn, 1) := by decide +kernel
abbrev q_254 (r0 : Nat) (a1 : Int) (a2 : Int) (T : wq_T) (H : wq_H) : Option Value → wq_T → wq_H → Prop := fun r T' H' => T = T' ∧ WT T H' ∧ wfr [(42, 0), (42, 1), (42, 2), (42, 28), (42, 29), (51, 999), (52, 999)] T H H' ∧ ∃ z : Int, some (vI z) = r ∧ ((-2147483648) ≤ z ∧ z ≤ 2147483647) ∧ (wKI H' r0 = 1) ∧ (H' r0 2 = -1)
set_option maxHeartbeats 4000000 in
theorem s_254 {kt : Nat → Option mc_E} {T : wq_T} {H : wq_H} {r0 : Nat} {a1 : Int} {a2 : Int} (hW : WT T H) (g0 : T.2.2.2 r0 = some 42) (i1 : (-2147483648) ≤ a1 ∧ a1 ≤ 2147483647) (i2 : 0 ≤ a2 ∧ a2 ≤ 1) (p0 : wKI H r0 = 1) : wpc kt 9 254 [.ref r0, vI a1, vI a2] T H (q_254 r0 a1 a2 T H) := by
  refine wp_enter e254 (Nat.le_of_ble_eq_true rfl) rfl ?_
  have f0 : wfr [(42, 0), (42, 1), (42, 2), (42, 28), (42, 29), (51, 999), (52, 999)] T H H := wfr.rf
  show wp _ _ 254 0 [(0, .ref r0), (1, vI a1), (2, vI a2)] [] _ H _
  refine wp_of e254 c254_0 (rw_aload_n (pc' := 1) (v := .ref r0) rfl rfl rfl ?_)
  refine wp_of e254 c254_1 (rw_iconst (pc' := 2) rfl ?_)
  refine wp_of e254 c254_2 (xp_I (pc' := 5) lf_9_48 hW g0 sh_42 (by decide) (by decide) ty_42_0 rfl rfl (by omega) (by omega) ⟨by omega, by omega⟩ rfl (fun H141303 e141304 w141305 => ?_))
  have f141306 := f0.put' e141304 g0 rfl
  have k141307 : H141303 r0 0 = 0 := wq_u_s e141304
  refine wp_of e254 c254_5 (rw_aload_n (pc' := 6) (v := .ref r0) rfl rfl rfl ?_)
  refine wp_of e254 c254_6 (rw_aload_n (pc' := 7) (v := .ref r0) rfl rfl rfl ?_)
  refine wp_of e254 c254_7 (rw_iload_n (pc' := 8) (z := a1) rfl rfl ?_)
  refine wp_of e254 c254_8 (xc_V (pc' := 11) (r := r0) (as := [vI a1]) (st := [.ref r0]) (lm_9_373) rfl rfl (Nat.le_of_ble_eq_true rfl) w141305 g0 sh_42 (by decide) rfl (by decide) (s_218 w141305 g0 ⟨by omega, by omega⟩) (fun R141308 T141309 H141310 p141311 => ?_))
  obtain ⟨e141312, e141314, z141316, e141313, b141317, p141315⟩ := p141311
  subst e141312
  subst e141313
  subst e141314
  show wp _ _ 254 11 [(0, .ref r0), (1, vI a1), (2, vI a2)] [vI z141316, .ref r0] _ H141303 _
  have k141318 : wKI H141303 r0 = wKI H r0 := (wKI_fr hW g0 ((wfr.rf (l := [(42, 0)])).put' e141304 g0 rfl) rfl)
  refine wp_of e254 c254_11 (xc_V (pc' := 14) (r := r0) (as := [vI z141316]) (st := []) (lm_9_447) rfl rfl (Nat.le_of_ble_eq_true rfl) w141305 g0 sh_42 (by decide) rfl (by decide) (s_253 w141305 g0 ⟨by omega, by omega⟩ (by omega) (by omega)) (fun R141319 T141320 H141321 p141322 => ?_))
  obtain ⟨e141323, w141325, f141326, z141331, e141324, b141332, p141327, p141328, p141329, p141330⟩ := p141322
  subst e141323
  subst e141324
  have f141333 := f141306.tr f141326 rfl
  show wp _ _ 254 14 [(0, .ref r0), (1, vI a1), (2, vI a2)] [vI z141331] _ H141321 _
  refine wp_of e254 c254_14 (rw_istore_n (pc' := 15) (z := z141331) (L' := [(3, vI z141331), (0, .ref r0), (1, vI a1), (2, vI a2)]) rfl rfl rfl ?_)
  refine wp_of e254 c254_15 (rw_iload_n (pc' := 16) (z := z141331) rfl rfl ?_)
  refine wp_of e254 c254_16 (rw_if_le (p1 := 25) (p2 := 19) (by decide) rfl ⟨by omega, by omega⟩ (fun c141334 => ?_) (fun c141334 => ?_))
  · refine wp_of e254 c254_25 (rw_iconst (pc' := 26) rfl ?_)
    refine wp_of e254 c254_26 (rw_istore (pc' := 28) (z := 0) (L' := [(4, vI 0), (3, vI z141331), (0, .ref r0), (1, vI a1), (2, vI a2)]) rfl rfl rfl ?_)
    refine wp_of e254 c254_28 (rw_iconst (pc' := 29) rfl ?_)
    refine wp_of e254 c254_29 (rw_istore (pc' := 31) (z := 0) (L' := [(5, vI 0), (4, vI 0), (3, vI z141331), (0, .ref r0), (1, vI a1), (2, vI a2)]) rfl rfl rfl ?_)
    have lp141601 : ∀ (n141602 : Nat) (v141604 : Int) (v141605 : Int) (H141606 : wq_H), WT T H141606 → wfr [(51, 999)] T H141321 H141606 → (0 ≤ v141604 ∧ v141604 ≤ 6) → (0 ≤ v141605 ∧ v141605 ≤ 16777215) → (6 - v141604).toNat = n141602 → wp kt 8 254 31 [(5, vI v141604), (4, vI v141605), (0, .ref r0), (1, vI a1), (2, vI a2)] [] T H141606 (q_254 r0 a1 a2 T H) := by
      intro n141602
      induction n141602 using Nat.strongRecOn with
      | _ n141602 ih141603 =>
        intro v141604 v141605 H141606 w141607 f141608 b141609 b141610 m141611
        have f141612 := f141333.tr f141608 rfl
        refine wp_of e254 c254_31 (rw_iload (pc' := 33) (z := v141604) rfl rfl ?_)
        refine wp_of e254 c254_33 (rw_aload_n (pc' := 34) (v := .ref r0) rfl rfl rfl ?_)
        have k141613 : H141606 r0 3 = H141303 r0 3 := ((f141608 r0 3 _ g0 rfl).trans (f141326 r0 3 _ g0 rfl))
        refine wp_of e254 c254_34 (xg_O (pc' := 37) lf_9_337 w141607 g0 sh_42 (by decide) (by decide) ty_42_3 rfl rfl (fun q141615 => ?_) (fun r141614 q141615 g141616 => ?_))
        · exfalso
          omega
        · refine wp_of e254 c254_37 (xg_I (pc' := 40) lf_9_188 w141607 g141616 sh_54 (by decide) (by decide) ty_54_3 rfl rfl (fun b141617 b141618 => ?_))
          refine wp_of e254 c254_40 (rw_icmp_ge (p1 := 84) (p2 := 43) (by decide) rfl ⟨by omega, by omega⟩ ⟨by omega, by omega⟩ (fun c141619 => ?_) (fun c141619 => ?_))
          · refine wp_of e254 c254_84 (rw_aload_n (pc' := 85) (v := .ref r0) rfl rfl rfl ?_)
            refine wp_of e254 c254_85 (rw_iload (pc' := 87) (z := v141605) rfl rfl ?_)
            refine wp_of e254 c254_87 (xc_V (pc' := 90) (r := r0) (as := [vI v141605]) (st := []) (lm_9_58) rfl rfl (Nat.le_of_ble_eq_true rfl) w141607 g0 sh_42 (by decide) rfl (by decide) (s_209 w141607 g0 ⟨by omega, by omega⟩) (fun R141620 T141621 H141622 p141623 => ?_))
            obtain ⟨e141624, w141626, f141627, z141629, e141625, b141630, p141628⟩ := p141623
            subst e141624
            subst e141625
            have f141631 := f141612.tr f141627 rfl
            show wp _ _ 254 90 [(5, vI v141604), (4, vI v141605), (0, .ref r0), (1, vI a1), (2, vI a2)] [vI z141629] _ H141622 _
            have k141632 : wKI H141622 r0 = wKI H141321 r0 := ((wKI_fr w141607 g0 f141627 rfl).trans (wKI_fr w141325 g0 f141608 rfl))
            exact wp_ireturn e254 c254_90 rfl ⟨rfl, w141626, f141631, z141629, rfl, ⟨by omega, by omega⟩, by omega, by omega⟩
          · refine wp_of e254 c254_43 (rw_iload (pc' := 45) (z := v141605) rfl rfl ?_)
            refine wp_of e254 c254_45 (rw_aload_n (pc' := 46) (v := .ref r0) rfl rfl rfl ?_)
            refine wp_of e254 c254_46 (rw_iload (pc' := 48) (z := v141604) rfl rfl ?_)
            refine wp_of e254 c254_48 (rw_iload_n (pc' := 49) (z := a1) rfl rfl ?_)
            have k141633 : H141606 r0 29 = H141321 r0 29 := (f141608 r0 29 _ g0 rfl)
            have k141634 : wLM H141606 r0 = wLM H141321 r0 := (wLM_fr w141325 g0 f141608 rfl)
            refine wp_of e254 c254_49 (xc_V (pc' := 52) (r := r0) (as := [vI v141604, vI a1]) (st := [vI v141605]) (lm_9_444) rfl rfl (Nat.le_of_ble_eq_true rfl) w141607 g0 sh_42 (by decide) rfl (by decide) (s_251 w141607 g0 ⟨by omega, by omega⟩ ⟨by omega, by omega⟩ q141615 g141616 (by omega)) (fun R141635 T141636 H141637 p141638 => ?_))
            obtain ⟨e141639, w141641, f141642, z141643, e141640, b141644⟩ := p141638
            subst e141639
            subst e141640
            have f141645 := f141612.tr f141642 rfl
            have f141646 := f141608.tr f141642 rfl
            show wp _ _ 254 52 [(5, vI v141604), (4, vI v141605), (0, .ref r0), (1, vI a1), (2, vI a2)] [vI z141643, vI v141605] _ H141637 _
            refine wp_of e254 c254_52 (rw_iload_n (pc' := 53) (z := a2) rfl rfl ?_)
            refine wp_of e254 c254_53 (rw_if_eq (p1 := 63) (p2 := 56) (by decide) rfl ⟨by omega, by omega⟩ (fun c141647 => ?_) (fun c141647 => ?_))
            · refine wp_of e254 c254_63 (rw_iconst (pc' := 64) rfl ?_)
              refine wp_of e254 c254_64 (rw_icmp_ne (p1 := 74) (p2 := 67) (by decide) rfl ⟨by omega, by omega⟩ ⟨by omega, by omega⟩ (fun c141648 => ?_) (fun c141648 => ?_))
              · refine wp_of e254 c254_74 (rw_iconst (pc' := 75) rfl ?_)
                refine wp_of e254 c254_75 (rw_ior (pc' := 76) rfl ?_)
                obtain ⟨v141649, e141650⟩ : ∃ x : Int, x = wq_or v141605 0 := ⟨_, rfl⟩
                rw [← e141650]
                have b141651 : 0 ≤ v141649 ∧ v141649 ≤ 16777215 := by
                  rw [e141650]
                  exact wq_or_24 ⟨by omega, by omega⟩ ⟨by omega, by omega⟩
                refine wp_of e254 c254_76 (rw_istore (pc' := 78) (z := v141649) (L' := [(4, vI v141649), (5, vI v141604), (0, .ref r0), (1, vI a1), (2, vI a2)]) rfl rfl rfl ?_)
                refine wp_of e254 c254_78 (rw_iinc (pc' := 81) (z := v141604) (L' := [(5, vI (v141604 + 1)), (4, vI v141649), (0, .ref r0), (1, vI a1), (2, vI a2)]) rfl rfl rfl rfl ?_)
                refine wp_of e254 c254_81 (rw_goto (p1 := 31) (by decide) ?_)
                exact wp_lc (ks := [5, 4, 0, 1, 2]) (wl_c rfl (wl_c rfl (wl_c rfl (wl_c rfl (wl_c rfl wl_n))))) rfl (by decide) (ih141603 _ (by omega) (v141604 + 1) v141649 H141637 w141641 f141646 ⟨by omega, by omega⟩ ⟨by omega, by omega⟩ rfl)
              · refine wp_of e254 c254_67 (rw_iconst (pc' := 68) rfl ?_)
                refine wp_of e254 c254_68 (rw_iload (pc' := 70) (z := v141604) rfl rfl ?_)
                refine wp_of e254 c254_70 (rw_ishl (pc' := 71) rfl ?_)
                obtain ⟨v141652, e141653⟩ : ∃ x : Int, x = wq_shl 1 v141604 := ⟨_, rfl⟩
                rw [← e141653]
                have b141654 : 1 ≤ v141652 ∧ v141652 ≤ 64 := by
                  rw [e141653]
                  exact wq_shl1_6 ⟨by omega, by omega⟩
                refine wp_of e254 c254_71 (rw_goto (p1 := 75) (by decide) ?_)
                refine wp_of e254 c254_75 (rw_ior (pc' := 76) rfl ?_)
                obtain ⟨v141655, e141656⟩ : ∃ x : Int, x = wq_or v141605 v141652 := ⟨_, rfl⟩
                rw [← e141656]
                have b141657 : 0 ≤ v141655 ∧ v141655 ≤ 16777215 := by
                  rw [e141656]
                  exact wq_or_24 ⟨by omega, by omega⟩ ⟨by omega, by omega⟩
                refine wp_of e254 c254_76 (rw_istore (pc' := 78) (z := v141655) (L' := [(4, vI v141655), (5, vI v141604), (0, .ref r0), (1, vI a1), (2, vI a2)]) rfl rfl rfl ?_)
                refine wp_of e254 c254_78 (rw_iinc (pc' := 81) (z := v141604) (L' := [(5, vI (v141604 + 1)), (4, vI v141655), (0, .ref r0), (1, vI a1), (2, vI a2)]) rfl rfl rfl rfl ?_)
                refine wp_of e254 c254_81 (rw_goto (p1 := 31) (by decide) ?_)
                exact wp_lc (ks := [5, 4, 0, 1, 2]) (wl_c rfl (wl_c rfl (wl_c rfl (wl_c rfl (wl_c rfl wl_n))))) rfl (by decide) (ih141603 _ (by omega) (v141604 + 1) v141655 H141637 w141641 f141646 ⟨by omega, by omega⟩ ⟨by omega, by omega⟩ rfl)
            · refine wp_of e254 c254_56 (rw_aload_n (pc' := 57) (v := .ref r0) rfl rfl rfl ?_)
              have k141658 : H141637 r0 29 = H141606 r0 29 := (f141642 r0 29 _ g0 rfl)
              refine wp_of e254 c254_57 (xg_I (pc' := 60) lf_9_422 w141641 g0 sh_42 (by decide) (by decide) ty_42_29 rfl rfl (fun b141659 b141660 => ?_))
              refine wp_of e254 c254_60 (rw_goto (p1 := 64) (by decide) ?_)
              refine wp_of e254 c254_64 (rw_icmp_ne (p1 := 74) (p2 := 67) (by decide) rfl ⟨by omega, by omega⟩ ⟨by omega, by omega⟩ (fun c141661 => ?_) (fun c141661 => ?_))
              · refine wp_of e254 c254_74 (rw_iconst (pc' := 75) rfl ?_)
                refine wp_of e254 c254_75 (rw_ior (pc' := 76) rfl ?_)
                obtain ⟨v141662, e141663⟩ : ∃ x : Int, x = wq_or v141605 0 := ⟨_, rfl⟩
                rw [← e141663]
                have b141664 : 0 ≤ v141662 ∧ v141662 ≤ 16777215 := by
                  rw [e141663]
                  exact wq_or_24 ⟨by omega, by omega⟩ ⟨by omega, by omega⟩
                refine wp_of e254 c254_76 (rw_istore (pc' := 78) (z := v141662) (L' := [(4, vI v141662), (5, vI v141604), (0, .ref r0), (1, vI a1), (2, vI a2)]) rfl rfl rfl ?_)
                refine wp_of e254 c254_78 (rw_iinc (pc' := 81) (z := v141604) (L' := [(5, vI (v141604 + 1)), (4, vI v141662), (0, .ref r0), (1, vI a1), (2, vI a2)]) rfl rfl rfl rfl ?_)
                refine wp_of e254 c254_81 (rw_goto (p1 := 31) (by decide) ?_)
                exact wp_lc (ks := [5, 4, 0, 1, 2]) (wl_c rfl (wl_c rfl (wl_c rfl (wl_c rfl (wl_c rfl wl_n))))) rfl (by decide) (ih141603 _ (by omega) (v141604 + 1) v141662 H141637 w141641 f141646 ⟨by omega, by omega⟩ ⟨by omega, by omega⟩ rfl)
              · refine wp_of e254 c254_67 (rw_iconst (pc' := 68) rfl ?_)
                refine wp_of e254 c254_68 (rw_iload (pc' := 70) (z := v141604) rfl rfl ?_)
                refine wp_of e254 c254_70 (rw_ishl (pc' := 71) rfl ?_)
                obtain ⟨v141665, e141666⟩ : ∃ x : Int, x = wq_shl 1 v141604 := ⟨_, rfl⟩
                rw [← e141666]
                have b141667 : 1 ≤ v141665 ∧ v141665 ≤ 64 := by
                  rw [e141666]
                  exact wq_shl1_6 ⟨by omega, by omega⟩
                refine wp_of e254 c254_71 (rw_goto (p1 := 75) (by decide) ?_)
                refine wp_of e254 c254_75 (rw_ior (pc' := 76) rfl ?_)
                obtain ⟨v141668, e141669⟩ : ∃ x : Int, x = wq_or v141605 v141665 := ⟨_, rfl⟩
                rw [← e141669]
                have b141670 : 0 ≤ v141668 ∧ v141668 ≤ 16777215 := by
                  rw [e141669]
                  exact wq_or_24 ⟨by omega, by omega⟩ ⟨by omega, by omega⟩
                refine wp_of e254 c254_76 (rw_istore (pc' := 78) (z := v141668) (L' := [(4, vI v141668), (5, vI v141604), (0, .ref r0), (1, vI a1), (2, vI a2)]) rfl rfl rfl ?_)
                refine wp_of e254 c254_78 (rw_iinc (pc' := 81) (z := v141604) (L' := [(5, vI (v141604 + 1)), (4, vI v141668), (0, .ref r0), (1, vI a1), (2, vI a2)]) rfl rfl rfl rfl ?_)
                refine wp_of e254 c254_81 (rw_goto (p1 := 31) (by decide) ?_)
                exact wp_lc (ks := [5, 4, 0, 1, 2]) (wl_c rfl (wl_c rfl (wl_c rfl (wl_c rfl (wl_c rfl wl_n))))) rfl (by decide) (ih141603 _ (by omega) (v141604 + 1) v141668 H141637 w141641 f141646 ⟨by omega, by omega⟩ ⟨by omega, by omega⟩ rfl)
    exact wp_lc (ks := [5, 4, 3, 0, 1, 2]) (wl_c rfl (wl_c rfl (wl_c rfl (wl_c rfl (wl_c rfl wl_n))))) rfl (by decide) (lp141601 _ 0 0 H141321 w141325 wfr.rf ⟨by omega, by omega⟩ ⟨by omega, by omega⟩ rfl)
  · refine wp_of e254 c254_19 (rw_aload_n (pc' := 20) (v := .ref r0) rfl rfl rfl ?_)
    refine wp_of e254 c254_20 (rw_iload_n (pc' := 21) (z := z141331) rfl rfl ?_)
    refine wp_of e254 c254_21 (xc_V (pc' := 24) (r := r0) (as := [vI z141331]) (st := []) (lm_9_54) rfl rfl (Nat.le_of_ble_eq_true rfl) w141325 g0 sh_42 (by decide) rfl (by decide) (s_170 w141325 g0 ⟨by omega, by omega⟩) (fun R141671 T141672 H141673 p141674 => ?_))
    obtain ⟨e141675, w141677, f141678, z141680, e141676, b141681, p141679⟩ := p141674
    subst e141675
    subst e141676
    have f141682 := f141333.tr f141678 rfl
    show wp _ _ 254 24 [(3, vI z141331), (0, .ref r0), (1, vI a1), (2, vI a2)] [vI z141680] _ H141673 _
    have k141683 : wKI H141673 r0 = wKI H141321 r0 := (wKI_fr w141325 g0 f141678 rfl)
    exact wp_ireturn e254 c254_24 rfl ⟨rfl, w141677, f141682, z141680, rfl, ⟨by omega, by omega⟩, by omega, by omega⟩
/-! StrikeAwakeModel.chance(II)I -/
theorem e255 : wq_en 255 = some (9, 4, false, some FieldType.int) := rfl
theorem c255_0 : mc_cd 255 0 = some (.aload_n 0, 1) := by decide +kernel
theorem c255_1 : mc_cd 255 1 = some (.iconst 0, 1) := by decide +kernel
theorem c255_2 : mc_cd 255 2 = some (.putfield 48, 3) := by decide +kernel
theorem c255_5 : mc_cd 255 5 = some (.aload_n 0, 1) := by decide +kernel
theorem c255_6 : mc_cd 255 6 = some (.aload_n 0, 1) := by decide +kernel
theorem c255_7 : mc_cd 255 7 = some (.iload_n 1, 1) := by decide +kernel
theorem c255_8 : mc_cd 255 8 = some (.invokevirtual 364, 3) := by decide +kernel
theorem c255_11 : mc_cd 255 11 = some (.ifCond .eq 15, 3) := by decide +kernel
theorem c255_14 : mc_cd 255 14 = some (.aload_n 0, 1) := by decide +kernel
theorem c255_15 : mc_cd 255 15 = some (.iload_n 2, 1) := by decide +kernel
theorem c255_16 : mc_cd 255 16 = some (.invokevirtual 373, 3) := by decide +kernel
theorem c255_19 : mc_cd 255 19 = some (.ifCond .eq 7, 3) := by decide +kernel
theorem c255_22 : mc_cd 255 22 = some (.iconst 1, 1) := by decide +kernel
theorem c255_23 : mc_cd 255 23 = some (.goto 4, 3) := by decide +kernel
theorem c255_26 : mc_cd 255 26 = some (.iconst 0, 1) := by decide +kernel
theorem c255_27 : mc_cd 255 27 = some (.invokevirtual 447, 3) := by decide +kernel
theorem c255_30 : mc_cd 255 30 = some (.istore_n 3, 1) := by decide +kernel
theorem c255_31 : mc_cd 255 31 = some (.iload_n 3, 1) := by decide +kernel
theorem c255_32 : mc_cd 255 32 = some (.ifCond .le 11, 3) := by decide +kernel
theorem c255_35 : mc_cd 255 35 = some (.aload_n 0, 1) := by decide +kernel
theorem c255_36 : mc_cd 255 36 = some (.iload_n 3, 1) := by decide +kernel
theorem c255_37 : mc_cd 255 37 = some (.invokevirtual 54, 3) := by decide +kernel
theorem c255_40 : mc_cd 255 40 = some (.goto 25, 3) := by decide +kernel
theorem c255_43 : mc_cd 255 43 = some (.aload_n 0, 1) := by decide +kernel
theorem c255_44 : mc_cd 255 44 = some (.ldc2_w 450, 3) := by decide +kernel
theorem c255_47 : mc_cd 255 47 = some (.aload_n 0, 1) := by decide +kernel
theorem c255_48 : mc_cd 255 48 = some (.iload_n 1, 1) := by decide +kernel
theorem c255_49 : mc_cd 255 49 = some (.iload_n 2, 1) := by decide +kernel
theorem c255_50 : mc_cd 255 50 = some (.invokevirtual 440, 3) := by decide +kernel
theorem c255_53 : mc_cd 255 53 = some (.lmul, 1) := by decide +kernel
theorem c255_54 : mc_cd 255 54 = some (.aload_n 0, 1) := by decide +kernel
theorem c255_55 : mc_cd 255 55 = some (.iconst (-1), 1) := by decide +kernel
theorem c255_56 : mc_cd 255 56 = some (.iconst 0, 1) := by decide +kernel
theorem c255_57 : mc_cd 255 57 = some (.invokevirtual 440, 3) := by decide +kernel
theorem c255_60 : mc_cd 255 60 = some (.ldiv, 1) := by decide +kernel
theorem c255_61 : mc_cd 255 61 = some (.l2i, 1) := by decide +kernel
theorem c255_62 : mc_cd 255 62 = some (.invokevirtual 58, 3) := by decide +kernel
theorem c255_65 : mc_cd 255 65 = some (.ireturn, 1) := by decide +kernel
abbrev q_255 (r0 : Nat) (a1 : Int) (a2 : Int) (T : wq_T) (H : wq_H) : Option Value → wq_T → wq_H → Prop := fun r T' H' => T = T' ∧ WT T H' ∧ wfr [(42, 0), (42, 1), (42, 2), (42, 28), (42, 29), (51, 999), (52, 999)] T H H' ∧ ∃ z : Int, some (vI z) = r ∧ ((-2147483648) ≤ z ∧ z ≤ 2147483647) ∧ (wKI H' r0 = 1) ∧ (H' r0 2 = -1)
set_option maxHeartbeats 4000000 in
theorem s_255 {kt : Nat → Option mc_E} {T : wq_T} {H : wq_H} {r0 : Nat} {a1 : Int} {a2 : Int} (hW : WT T H) (g0 : T.2.2.2 r0 = some 42) (i1 : (-2147483648) ≤ a1 ∧ a1 ≤ 2147483647) (i2 : (-2147483648) ≤ a2 ∧ a2 ≤ 2147483647) (p0 : wKI H r0 = 1) : wpc kt 9 255 [.ref r0, vI a1, vI a2] T H (q_255 r0 a1 a2 T H) := by
  refine wp_enter e255 (Nat.le_of_ble_eq_true rfl) rfl ?_
  have f0 : wfr [(42, 0), (42, 1), (42, 2), (42, 28), (42, 29), (51, 999), (52, 999)] T H H := wfr.rf
  show wp _ _ 255 0 [(0, .ref r0), (1, vI a1), (2, vI a2)] [] _ H _
  refine wp_of e255 c255_0 (rw_aload_n (pc' := 1) (v := .ref r0) rfl rfl rfl ?_)
  refine wp_of e255 c255_1 (rw_iconst (pc' := 2) rfl ?_)
  refine wp_of e255 c255_2 (xp_I (pc' := 5) lf_9_48 hW g0 sh_42 (by decide) (by decide) ty_42_0 rfl rfl (by omega) (by omega) ⟨by omega, by omega⟩ rfl (fun H141850 e141851 w141852 => ?_))
  have f141853 := f0.put' e141851 g0 rfl
  have k141854 : H141850 r0 0 = 0 := wq_u_s e141851
  refine wp_of e255 c255_5 (rw_aload_n (pc' := 6) (v := .ref r0) rfl rfl rfl ?_)
  refine wp_of e255 c255_6 (rw_aload_n (pc' := 7) (v := .ref r0) rfl rfl rfl ?_)
  refine wp_of e255 c255_7 (rw_iload_n (pc' := 8) (z := a1) rfl rfl ?_)
  refine wp_of e255 c255_8 (xc_V (pc' := 11) (r := r0) (as := [vI a1]) (st := [.ref r0]) (lm_9_364) rfl rfl (Nat.le_of_ble_eq_true rfl) w141852 g0 sh_42 (by decide) rfl (by decide) (s_213 w141852 g0 ⟨by omega, by omega⟩) (fun R141855 T141856 H141857 p141858 => ?_))
  obtain ⟨e141859, e141861, z141863, e141860, b141864, p141862⟩ := p141858
  subst e141859
  subst e141860
  subst e141861
  show wp _ _ 255 11 [(0, .ref r0), (1, vI a1), (2, vI a2)] [vI z141863, .ref r0] _ H141850 _
  refine wp_of e255 c255_11 (rw_if_eq (p1 := 26) (p2 := 14) (by decide) rfl ⟨by omega, by omega⟩ (fun c141865 => ?_) (fun c141865 => ?_))
  · refine wp_of e255 c255_26 (rw_iconst (pc' := 27) rfl ?_)
    have k141866 : wKI H141850 r0 = wKI H r0 := (wKI_fr hW g0 ((wfr.rf (l := [(42, 0)])).put' e141851 g0 rfl) rfl)
    refine wp_of e255 c255_27 (xc_V (pc' := 30) (r := r0) (as := [vI 0]) (st := []) (lm_9_447) rfl rfl (Nat.le_of_ble_eq_true rfl) w141852 g0 sh_42 (by decide) rfl (by decide) (s_253 w141852 g0 ⟨by omega, by omega⟩ (by omega) (by omega)) (fun R141867 T141868 H141869 p141870 => ?_))
    obtain ⟨e141871, w141873, f141874, z141879, e141872, b141880, p141875, p141876, p141877, p141878⟩ := p141870
    subst e141871
    subst e141872
    have f141881 := f141853.tr f141874 rfl
    show wp _ _ 255 30 [(0, .ref r0), (1, vI a1), (2, vI a2)] [vI z141879] _ H141869 _
    refine wp_of e255 c255_30 (rw_istore_n (pc' := 31) (z := z141879) (L' := [(3, vI z141879), (0, .ref r0), (1, vI a1), (2, vI a2)]) rfl rfl rfl ?_)
    refine wp_of e255 c255_31 (rw_iload_n (pc' := 32) (z := z141879) rfl rfl ?_)
    refine wp_of e255 c255_32 (rw_if_le (p1 := 43) (p2 := 35) (by decide) rfl ⟨by omega, by omega⟩ (fun c141882 => ?_) (fun c141882 => ?_))
    · exfalso
      omega
    · refine wp_of e255 c255_35 (rw_aload_n (pc' := 36) (v := .ref r0) rfl rfl rfl ?_)
      refine wp_of e255 c255_36 (rw_iload_n (pc' := 37) (z := z141879) rfl rfl ?_)
      refine wp_of e255 c255_37 (xc_V (pc' := 40) (r := r0) (as := [vI z141879]) (st := []) (lm_9_54) rfl rfl (Nat.le_of_ble_eq_true rfl) w141873 g0 sh_42 (by decide) rfl (by decide) (s_170 w141873 g0 ⟨by omega, by omega⟩) (fun R141883 T141884 H141885 p141886 => ?_))
      obtain ⟨e141887, w141889, f141890, z141892, e141888, b141893, p141891⟩ := p141886
      subst e141887
      subst e141888
      have f141894 := f141881.tr f141890 rfl
      show wp _ _ 255 40 [(3, vI z141879), (0, .ref r0), (1, vI a1), (2, vI a2)] [vI z141892] _ H141885 _
      refine wp_of e255 c255_40 (rw_goto (p1 := 65) (by decide) ?_)
      have k141895 : wKI H141885 r0 = wKI H141869 r0 := (wKI_fr w141873 g0 f141890 rfl)
      exact wp_ireturn e255 c255_65 rfl ⟨rfl, w141889, f141894, z141892, rfl, ⟨by omega, by omega⟩, by omega, by omega⟩
  · refine wp_of e255 c255_14 (rw_aload_n (pc' := 15) (v := .ref r0) rfl rfl rfl ?_)
    refine wp_of e255 c255_15 (rw_iload_n (pc' := 16) (z := a2) rfl rfl ?_)
    refine wp_of e255 c255_16 (xc_V (pc' := 19) (r := r0) (as := [vI a2]) (st := [.ref r0]) (lm_9_373) rfl rfl (Nat.le_of_ble_eq_true rfl) w141852 g0 sh_42 (by decide) rfl (by decide) (s_218 w141852 g0 ⟨by omega, by omega⟩) (fun R141896 T141897 H141898 p141899 => ?_))
    obtain ⟨e141900, e141902, z141904, e141901, b141905, p141903⟩ := p141899
    subst e141900
    subst e141901
    subst e141902
    show wp _ _ 255 19 [(0, .ref r0), (1, vI a1), (2, vI a2)] [vI z141904, .ref r0] _ H141850 _
    refine wp_of e255 c255_19 (rw_if_eq (p1 := 26) (p2 := 22) (by decide) rfl ⟨by omega, by omega⟩ (fun c141906 => ?_) (fun c141906 => ?_))
    · refine wp_of e255 c255_26 (rw_iconst (pc' := 27) rfl ?_)
      have k141907 : wKI H141850 r0 = wKI H r0 := (wKI_fr hW g0 ((wfr.rf (l := [(42, 0)])).put' e141851 g0 rfl) rfl)
      refine wp_of e255 c255_27 (xc_V (pc' := 30) (r := r0) (as := [vI 0]) (st := []) (lm_9_447) rfl rfl (Nat.le_of_ble_eq_true rfl) w141852 g0 sh_42 (by decide) rfl (by decide) (s_253 w141852 g0 ⟨by omega, by omega⟩ (by omega) (by omega)) (fun R141908 T141909 H141910 p141911 => ?_))
      obtain ⟨e141912, w141914, f141915, z141920, e141913, b141921, p141916, p141917, p141918, p141919⟩ := p141911
      subst e141912
      subst e141913
      have f141922 := f141853.tr f141915 rfl
      show wp _ _ 255 30 [(0, .ref r0), (1, vI a1), (2, vI a2)] [vI z141920] _ H141910 _
      refine wp_of e255 c255_30 (rw_istore_n (pc' := 31) (z := z141920) (L' := [(3, vI z141920), (0, .ref r0), (1, vI a1), (2, vI a2)]) rfl rfl rfl ?_)
      refine wp_of e255 c255_31 (rw_iload_n (pc' := 32) (z := z141920) rfl rfl ?_)
      refine wp_of e255 c255_32 (rw_if_le (p1 := 43) (p2 := 35) (by decide) rfl ⟨by omega, by omega⟩ (fun c141923 => ?_) (fun c141923 => ?_))
      · exfalso
        omega
      · refine wp_of e255 c255_35 (rw_aload_n (pc' := 36) (v := .ref r0) rfl rfl rfl ?_)
        refine wp_of e255 c255_36 (rw_iload_n (pc' := 37) (z := z141920) rfl rfl ?_)
        refine wp_of e255 c255_37 (xc_V (pc' := 40) (r := r0) (as := [vI z141920]) (st := []) (lm_9_54) rfl rfl (Nat.le_of_ble_eq_true rfl) w141914 g0 sh_42 (by decide) rfl (by decide) (s_170 w141914 g0 ⟨by omega, by omega⟩) (fun R141924 T141925 H141926 p141927 => ?_))
        obtain ⟨e141928, w141930, f141931, z141933, e141929, b141934, p141932⟩ := p141927
        subst e141928
        subst e141929
        have f141935 := f141922.tr f141931 rfl
        show wp _ _ 255 40 [(3, vI z141920), (0, .ref r0), (1, vI a1), (2, vI a2)] [vI z141933] _ H141926 _
        refine wp_of e255 c255_40 (rw_goto (p1 := 65) (by decide) ?_)
        have k141936 : wKI H141926 r0 = wKI H141910 r0 := (wKI_fr w141914 g0 f141931 rfl)
        exact wp_ireturn e255 c255_65 rfl ⟨rfl, w141930, f141935, z141933, rfl, ⟨by omega, by omega⟩, by omega, by omega⟩
    · refine wp_of e255 c255_22 (rw_iconst (pc' := 23) rfl ?_)
      refine wp_of e255 c255_23 (rw_goto (p1 := 27) (by decide) ?_)
      have k141937 : wKI H141850 r0 = wKI H r0 := (wKI_fr hW g0 ((wfr.rf (l := [(42, 0)])).put' e141851 g0 rfl) rfl)
      refine wp_of e255 c255_27 (xc_V (pc' := 30) (r := r0) (as := [vI 1]) (st := []) (lm_9_447) rfl rfl (Nat.le_of_ble_eq_true rfl) w141852 g0 sh_42 (by decide) rfl (by decide) (s_253 w141852 g0 ⟨by omega, by omega⟩ (by omega) (by omega)) (fun R141938 T141939 H141940 p141941 => ?_))
      obtain ⟨e141942, w141944, f141945, z141950, e141943, b141951, p141946, p141947, p141948, p141949⟩ := p141941
      subst e141942
      subst e141943
      have f141952 := f141853.tr f141945 rfl
      show wp _ _ 255 30 [(0, .ref r0), (1, vI a1), (2, vI a2)] [vI z141950] _ H141940 _
      refine wp_of e255 c255_30 (rw_istore_n (pc' := 31) (z := z141950) (L' := [(3, vI z141950), (0, .ref r0), (1, vI a1), (2, vI a2)]) rfl rfl rfl ?_)
      refine wp_of e255 c255_31 (rw_iload_n (pc' := 32) (z := z141950) rfl rfl ?_)
      refine wp_of e255 c255_32 (rw_if_le (p1 := 43) (p2 := 35) (by decide) rfl ⟨by omega, by omega⟩ (fun c141953 => ?_) (fun c141953 => ?_))
      · refine wp_of e255 c255_43 (rw_aload_n (pc' := 44) (v := .ref r0) rfl rfl rfl ?_)
        refine wp_of e255 c255_44 (rw_ldc2 (pc' := 47) (z := 100) rfl rfl rfl ?_)
        refine wp_of e255 c255_47 (rw_aload_n (pc' := 48) (v := .ref r0) rfl rfl rfl ?_)
        refine wp_of e255 c255_48 (rw_iload_n (pc' := 49) (z := a1) rfl rfl ?_)
        refine wp_of e255 c255_49 (rw_iload_n (pc' := 50) (z := a2) rfl rfl ?_)
        have k141954 : H141940 r0 3 = H141850 r0 3 := (f141945 r0 3 _ g0 rfl)
        obtain ⟨r141955, q141956, g141957⟩ := (w141944.opt g0 (t' := 54) (n := 33) (j := 3) (p := 0) (q := 0) rfl (by decide) rfl).resolve_left (by omega)
        refine wp_of e255 c255_50 (xc_V (pc' := 53) (r := r0) (as := [vI a1, vI a2]) (st := [vL 100, .ref r0]) (lm_9_440) rfl rfl (Nat.le_of_ble_eq_true rfl) w141944 g0 sh_42 (by decide) rfl (by decide) (s_247 w141944 g0 ⟨by omega, by omega⟩ ⟨by omega, by omega⟩ q141956 g141957 (by omega)) (fun R141958 T141959 H141960 p141961 => ?_))
        obtain ⟨e141962, w141964, f141965, z141967, e141963, b141968, p141966⟩ := p141961
        subst e141962
        subst e141963
        have f141969 := f141952.tr f141965 rfl
        show wp _ _ 255 53 [(3, vI z141950), (0, .ref r0), (1, vI a1), (2, vI a2)] [vL z141967, vL 100, .ref r0] _ H141960 _
        refine wp_of e255 c255_53 (rw_lmul (pc' := 54) rfl ?_)
        refine wp_of e255 c255_54 (rw_aload_n (pc' := 55) (v := .ref r0) rfl rfl rfl ?_)
        refine wp_of e255 c255_55 (rw_iconst (pc' := 56) rfl ?_)
        refine wp_of e255 c255_56 (rw_iconst (pc' := 57) rfl ?_)
        have k141970 : H141960 r0 29 = H141940 r0 29 := (f141965 r0 29 _ g0 rfl)
        have k141971 : wLM H141960 r0 = wLM H141940 r0 := (wLM_fr w141944 g0 f141965 rfl)
        have k141972 : H141960 r0 3 = H141940 r0 3 := (f141965 r0 3 _ g0 rfl)
        have q141973 : H141960 r0 3 = (r141955 : Int) := k141972.trans q141956
        refine wp_of e255 c255_57 (xc_V (pc' := 60) (r := r0) (as := [vI (-1), vI 0]) (st := [vL (100 * z141967), .ref r0]) (lm_9_440) rfl rfl (Nat.le_of_ble_eq_true rfl) w141964 g0 sh_42 (by decide) rfl (by decide) (s_247 w141964 g0 ⟨by omega, by omega⟩ ⟨by omega, by omega⟩ q141973 g141957 (by omega)) (fun R141974 T141975 H141976 p141977 => ?_))
        obtain ⟨e141978, w141980, f141981, z141983, e141979, b141984, p141982⟩ := p141977
        subst e141978
        subst e141979
        have f141985 := f141969.tr f141981 rfl
        show wp _ _ 255 60 [(3, vI z141950), (0, .ref r0), (1, vI a1), (2, vI a2)] [vL z141983, vL (100 * z141967), .ref r0] _ H141976 _
        refine wp_of e255 c255_60 (rw_ldiv (pc' := 61) rfl ⟨by omega, by omega⟩ (by omega) ?_)
        obtain ⟨v141986, e141987⟩ : ∃ x : Int, x = wl_div (100 * z141967) z141983 := ⟨_, rfl⟩
        rw [← e141987]
        have b141988 : -9223372036854775808 ≤ v141986 ∧ v141986 ≤ 9223372036854775807 := by
          rw [e141987]
          exact wL_div _ _
        refine wp_of e255 c255_61 (rw_l2i (pc' := 62) rfl ?_)
        obtain ⟨v141989, e141990⟩ : ∃ x : Int, x = wq_w v141986 := ⟨_, rfl⟩
        rw [← e141990]
        have b141991 : -2147483648 ≤ v141989 ∧ v141989 ≤ 2147483647 := by
          rw [e141990]
          exact wI_w _
        have b141992 : (-2147483648 ≤ v141986 ∧ v141986 ≤ 2147483647) → v141989 = v141986 := by
          rw [e141990]
          exact fun h => wq_w_id h
        refine wp_of e255 c255_62 (xc_V (pc' := 65) (r := r0) (as := [vI v141989]) (st := []) (lm_9_58) rfl rfl (Nat.le_of_ble_eq_true rfl) w141980 g0 sh_42 (by decide) rfl (by decide) (s_209 w141980 g0 ⟨by omega, by omega⟩) (fun R141993 T141994 H141995 p141996 => ?_))
        obtain ⟨e141997, w141999, f142000, z142002, e141998, b142003, p142001⟩ := p141996
        subst e141997
        subst e141998
        have f142004 := f141985.tr f142000 rfl
        show wp _ _ 255 65 [(3, vI z141950), (0, .ref r0), (1, vI a1), (2, vI a2)] [vI z142002] _ H141995 _
        have k142005 : wKI H141995 r0 = wKI H141940 r0 := ((wKI_fr w141980 g0 f142000 rfl).trans ((wKI_fr w141964 g0 f141981 rfl).trans (wKI_fr w141944 g0 f141965 rfl)))
        exact wp_ireturn e255 c255_65 rfl ⟨rfl, w141999, f142004, z142002, rfl, ⟨by omega, by omega⟩, by omega, by omega⟩
      · refine wp_of e255 c255_35 (rw_aload_n (pc' := 36) (v := .ref r0) rfl rfl rfl ?_)
        refine wp_of e255 c255_36 (rw_iload_n (pc' := 37) (z := z141950) rfl rfl ?_)
        refine wp_of e255 c255_37 (xc_V (pc' := 40) (r := r0) (as := [vI z141950]) (st := []) (lm_9_54) rfl rfl (Nat.le_of_ble_eq_true rfl) w141944 g0 sh_42 (by decide) rfl (by decide) (s_170 w141944 g0 ⟨by omega, by omega⟩) (fun R142006 T142007 H142008 p142009 => ?_))
        obtain ⟨e142010, w142012, f142013, z142015, e142011, b142016, p142014⟩ := p142009
        subst e142010
        subst e142011
        have f142017 := f141952.tr f142013 rfl
        show wp _ _ 255 40 [(3, vI z141950), (0, .ref r0), (1, vI a1), (2, vI a2)] [vI z142015] _ H142008 _
        refine wp_of e255 c255_40 (rw_goto (p1 := 65) (by decide) ?_)
        have k142018 : wKI H142008 r0 = wKI H141940 r0 := (wKI_fr w141944 g0 f142013 rfl)
        exact wp_ireturn e255 c255_65 rfl ⟨rfl, w142012, f142017, z142015, rfl, ⟨by omega, by omega⟩, by omega, by omega⟩
/-! StrikeAwakeModel.findLikeliest()J -/
theorem e257 : wq_en 257 = some (9, 5, false, some FieldType.long) := rfl
theorem c257_0 : mc_cd 257 0 = some (.iconst (-1), 1) := by decide +kernel
theorem c257_1 : mc_cd 257 1 = some (.istore_n 1, 1) := by decide +kernel
theorem c257_2 : mc_cd 257 2 = some (.lconst 0, 1) := by decide +kernel
theorem c257_3 : mc_cd 257 3 = some (.lstore_n 2, 1) := by decide +kernel
theorem c257_4 : mc_cd 257 4 = some (.iconst 0, 1) := by decide +kernel
theorem c257_5 : mc_cd 257 5 = some (.istore 4, 2) := by decide +kernel
theorem c257_7 : mc_cd 257 7 = some (.iload 4, 2) := by decide +kernel
theorem c257_9 : mc_cd 257 9 = some (.aload_n 0, 1) := by decide +kernel
theorem c257_10 : mc_cd 257 10 = some (.getfield 422, 3) := by decide +kernel
theorem c257_13 : mc_cd 257 13 = some (.if_icmp .ge 40, 3) := by decide +kernel
theorem c257_16 : mc_cd 257 16 = some (.aload_n 0, 1) := by decide +kernel
theorem c257_17 : mc_cd 257 17 = some (.aload_n 0, 1) := by decide +kernel
theorem c257_18 : mc_cd 257 18 = some (.getfield 42, 3) := by decide +kernel
theorem c257_21 : mc_cd 257 21 = some (.iload 4, 2) := by decide +kernel
theorem c257_23 : mc_cd 257 23 = some (.iaload, 1) := by decide +kernel
theorem c257_24 : mc_cd 257 24 = some (.invokevirtual 425, 3) := by decide +kernel
theorem c257_27 : mc_cd 257 27 = some (.aload_n 0, 1) := by decide +kernel
theorem c257_28 : mc_cd 257 28 = some (.invokevirtual 437, 3) := by decide +kernel
theorem c257_31 : mc_cd 257 31 = some (.lload_n 2, 1) := by decide +kernel
theorem c257_32 : mc_cd 257 32 = some (.lcmp, 1) := by decide +kernel
theorem c257_33 : mc_cd 257 33 = some (.ifCond .gt 6, 3) := by decide +kernel
theorem c257_36 : mc_cd 257 36 = some (.goto 11, 3) := by decide +kernel
theorem c257_39 : mc_cd 257 39 = some (.aload_n 0, 1) := by decide +kernel
theorem c257_40 : mc_cd 257 40 = some (.invokevirtual 437, 3) := by decide +kernel
theorem c257_43 : mc_cd 257 43 = some (.lstore_n 2, 1) := by decide +kernel
theorem c257_44 : mc_cd 257 44 = some (.iload 4, 2) := by decide +kernel
theorem c257_46 : mc_cd 257 46 = some (.istore_n 1, 1) := by decide +kernel
theorem c257_47 : mc_cd 257 47 = some (.iinc 4 1, 3) := by decide +kernel
theorem c257_50 : mc_cd 257 50 = some (.goto (-43), 3) := by decide +kernel
theorem c257_53 : mc_cd 257 53 = some (.aload_n 0, 1) := by decide +kernel
theorem c257_54 : mc_cd 257 54 = some (.aload_n 0, 1) := by decide +kernel
theorem c257_55 : mc_cd 257 55 = some (.getfield 42, 3) := by decide +kernel
theorem c257_58 : mc_cd 257 58 = some (.iload_n 1, 1) := by decide +kernel
theorem c257_59 : mc_cd 257 59 = some (.iaload, 1) := by decide +kernel
theorem c257_60 : mc_cd 257 60 = some (.invokevirtual 425, 3) := by decide +kernel
theorem c257_63 : mc_cd 257 63 = some (.lload_n 2, 1) := by decide +kernel
theorem c257_64 : mc_cd 257 64 = some (.lreturn, 1) := by decide +kernel
abbrev q_257 (r0 : Nat) (pp : Nat) (T : wq_T) (H : wq_H) : Option Value → wq_T → wq_H → Prop := fun r T' H' => T = T' ∧ WT T H' ∧ wfr [(51, 999)] T H H' ∧ ∃ z : Int, some (vL z) = r ∧ (0 ≤ z ∧ z ≤ 1000000)
set_option maxHeartbeats 4000000 in
theorem s_257 {kt : Nat → Option mc_E} {T : wq_T} {H : wq_H} {r0 : Nat} {pp : Nat} (hW : WT T H) (g0 : T.2.2.2 r0 = some 42) (qpp : H r0 3 = (pp : Int)) (gpp : T.2.2.2 pp = some 54) (p0 : H r0 29 = 0 ∨ 0 < wLM H r0) (p1 : 0 < H r0 29) : wpc kt 3 257 [.ref r0] T H (q_257 r0 pp T H) := by
  refine wp_enter e257 (Nat.le_of_ble_eq_true rfl) rfl ?_
  have f0 : wfr [(51, 999)] T H H := wfr.rf
  show wp _ _ 257 0 [(0, .ref r0)] [] _ H _
  have b142424 : 0 ≤ H r0 29 ∧ H r0 29 ≤ 20000 := hW.box g0 (n := 33) rfl (by decide) rfl
  refine wp_of e257 c257_0 (rw_iconst (pc' := 1) rfl ?_)
  refine wp_of e257 c257_1 (rw_istore_n (pc' := 2) (z := -1) (L' := [(1, vI (-1)), (0, .ref r0)]) rfl rfl rfl ?_)
  refine wp_of e257 c257_2 (rw_lconst (pc' := 3) (z := 0) rfl rfl ?_)
  refine wp_of e257 c257_3 (rw_lstore_n (pc' := 4) (z := 0) (L' := [(2, vL 0), (1, vI (-1)), (0, .ref r0)]) rfl rfl rfl ?_)
  refine wp_of e257 c257_4 (rw_iconst (pc' := 5) rfl ?_)
  refine wp_of e257 c257_5 (rw_istore (pc' := 7) (z := 0) (L' := [(4, vI 0), (2, vL 0), (1, vI (-1)), (0, .ref r0)]) rfl rfl rfl ?_)
  have lp142769 : ∀ (n142770 : Nat) (v142772 : Int) (v142773 : Int) (v142774 : Int) (H142775 : wq_H), WT T H142775 → wfr [(51, 999)] T H H142775 → (0 ≤ v142772 ∧ v142772 ≤ 20000) → (0 ≤ v142773 ∧ v142773 ≤ 1000000) → ((-1) ≤ v142774 ∧ v142774 ≤ 19999) → (v142772 ≤ H142775 r0 29) → (0 ≤ v142774 ∨ (v142772 = 0 ∧ v142773 = 0)) → (20000 - v142772).toNat = n142770 → wp kt 2 257 7 [(4, vI v142772), (2, vL v142773), (1, vI v142774), (0, .ref r0)] [] T H142775 (q_257 r0 pp T H) := by
    intro n142770
    induction n142770 using Nat.strongRecOn with
    | _ n142770 ih142771 =>
      intro v142772 v142773 v142774 H142775 w142776 f142777 b142778 b142779 b142780 x142781 x142782 m142783
      have f142784 := f0.tr f142777 rfl
      have k142785 : H142775 r0 29 = H r0 29 := (f142777 r0 29 _ g0 rfl)
      refine wp_of e257 c257_7 (rw_iload (pc' := 9) (z := v142772) rfl rfl ?_)
      refine wp_of e257 c257_9 (rw_aload_n (pc' := 10) (v := .ref r0) rfl rfl rfl ?_)
      refine wp_of e257 c257_10 (xg_I (pc' := 13) lf_9_422 w142776 g0 sh_42 (by decide) (by decide) ty_42_29 rfl rfl (fun b142786 b142787 => ?_))
      refine wp_of e257 c257_13 (rw_icmp_ge (p1 := 53) (p2 := 16) (by decide) rfl ⟨by omega, by omega⟩ ⟨by omega, by omega⟩ (fun c142788 => ?_) (fun c142788 => ?_))
      · refine wp_of e257 c257_53 (rw_aload_n (pc' := 54) (v := .ref r0) rfl rfl rfl ?_)
        refine wp_of e257 c257_54 (rw_aload_n (pc' := 55) (v := .ref r0) rfl rfl rfl ?_)
        refine wp_of e257 c257_55 (xg_R (pc' := 58) lf_9_42 w142776 g0 sh_42 (by decide) (by decide) ty_42_30 rfl rfl (fun r142789 q142790 g142791 => ?_))
        refine wp_of e257 c257_58 (rw_iload_n (pc' := 59) (z := v142774) rfl rfl ?_)
        refine wp_of e257 c257_59 (xa_I (so := 0) (pc' := 60) w142776 g142791 sh_52 (by decide) (ty_52 _) (by omega) (by omega) rfl (fun b142792 b142793 => ?_))
        have k142794 : wLM H142775 r0 = wLM H r0 := (wLM_fr hW g0 f142777 rfl)
        have k142795 : H142775 r0 3 = H r0 3 := (f142777 r0 3 _ g0 rfl)
        have q142796 : H142775 r0 3 = (pp : Int) := k142795.trans qpp
        refine wp_of e257 c257_60 (xc_V (pc' := 63) (r := r0) (as := [vI (H142775 r142789 (v142774.toNat))]) (st := []) (lm_9_425) rfl rfl (Nat.le_of_ble_eq_true rfl) w142776 g0 sh_42 (by decide) rfl (by decide) (s_243 w142776 g0 ⟨by omega, by omega⟩ q142796 gpp (by omega)) (fun R142797 T142798 H142799 p142800 => ?_))
        obtain ⟨e142801, w142803, f142804, e142802⟩ := p142800
        subst e142801
        subst e142802
        have f142805 := f142784.tr f142804 rfl
        show wp _ _ 257 63 [(4, vI v142772), (2, vL v142773), (1, vI v142774), (0, .ref r0)] [] _ H142799 _
        refine wp_of e257 c257_63 (rw_lload_n (pc' := 64) (z := v142773) rfl rfl ?_)
        exact wp_lreturn e257 c257_64 rfl ⟨rfl, w142803, f142805, v142773, rfl, ⟨by omega, by omega⟩⟩
      · refine wp_of e257 c257_16 (rw_aload_n (pc' := 17) (v := .ref r0) rfl rfl rfl ?_)
        refine wp_of e257 c257_17 (rw_aload_n (pc' := 18) (v := .ref r0) rfl rfl rfl ?_)
        refine wp_of e257 c257_18 (xg_R (pc' := 21) lf_9_42 w142776 g0 sh_42 (by decide) (by decide) ty_42_30 rfl rfl (fun r142806 q142807 g142808 => ?_))
        refine wp_of e257 c257_21 (rw_iload (pc' := 23) (z := v142772) rfl rfl ?_)
        refine wp_of e257 c257_23 (xa_I (so := 0) (pc' := 24) w142776 g142808 sh_52 (by decide) (ty_52 _) (by omega) (by omega) rfl (fun b142809 b142810 => ?_))
        have k142811 : wLM H142775 r0 = wLM H r0 := (wLM_fr hW g0 f142777 rfl)
        have k142812 : H142775 r0 3 = H r0 3 := (f142777 r0 3 _ g0 rfl)
        have q142813 : H142775 r0 3 = (pp : Int) := k142812.trans qpp
        refine wp_of e257 c257_24 (xc_V (pc' := 27) (r := r0) (as := [vI (H142775 r142806 (v142772.toNat))]) (st := []) (lm_9_425) rfl rfl (Nat.le_of_ble_eq_true rfl) w142776 g0 sh_42 (by decide) rfl (by decide) (s_243 w142776 g0 ⟨by omega, by omega⟩ q142813 gpp (by omega)) (fun R142814 T142815 H142816 p142817 => ?_))
        obtain ⟨e142818, w142820, f142821, e142819⟩ := p142817
        subst e142818
        subst e142819
        have f142822 := f142784.tr f142821 rfl
        have f142823 := f142777.tr f142821 rfl
        show wp _ _ 257 27 [(4, vI v142772), (2, vL v142773), (1, vI v142774), (0, .ref r0)] [] _ H142816 _
        refine wp_of e257 c257_27 (rw_aload_n (pc' := 28) (v := .ref r0) rfl rfl rfl ?_)
        have k142824 : H142816 r0 3 = H142775 r0 3 := (f142821 r0 3 _ g0 rfl)
        have q142825 : H142816 r0 3 = (pp : Int) := k142824.trans q142813
        refine wp_of e257 c257_28 (xc_V (pc' := 31) (r := r0) (as := []) (st := []) (lm_9_437) rfl rfl (Nat.le_of_ble_eq_true rfl) w142820 g0 sh_42 (by decide) rfl (by decide) (s_248 w142820 g0 q142825 gpp) (fun R142826 T142827 H142828 p142829 => ?_))
        obtain ⟨e142830, e142832, z142833, e142831, b142834⟩ := p142829
        subst e142830
        subst e142831
        subst e142832
        show wp _ _ 257 31 [(4, vI v142772), (2, vL v142773), (1, vI v142774), (0, .ref r0)] [vL z142833] _ H142816 _
        refine wp_of e257 c257_31 (rw_lload_n (pc' := 32) (z := v142773) rfl rfl ?_)
        refine wp_of e257 c257_32 (rw_lcmp (pc' := 33) rfl ⟨by omega, by omega⟩ ⟨by omega, by omega⟩ ?_)
        have b142835 := wq_cmp_b z142833 v142773
        refine wp_of e257 c257_33 (rw_if_gt (p1 := 39) (p2 := 36) (by decide) rfl ⟨by omega, by omega⟩ (fun c142836 => ?_) (fun c142836 => ?_))
        · refine wp_of e257 c257_39 (rw_aload_n (pc' := 40) (v := .ref r0) rfl rfl rfl ?_)
          refine wp_of e257 c257_40 (xc_V (pc' := 43) (r := r0) (as := []) (st := []) (lm_9_437) rfl rfl (Nat.le_of_ble_eq_true rfl) w142820 g0 sh_42 (by decide) rfl (by decide) (s_248 w142820 g0 q142825 gpp) (fun R142837 T142838 H142839 p142840 => ?_))
          obtain ⟨e142841, e142843, z142844, e142842, b142845⟩ := p142840
          subst e142841
          subst e142842
          subst e142843
          show wp _ _ 257 43 [(4, vI v142772), (2, vL v142773), (1, vI v142774), (0, .ref r0)] [vL z142844] _ H142816 _
          refine wp_of e257 c257_43 (rw_lstore_n (pc' := 44) (z := z142844) (L' := [(2, vL z142844), (4, vI v142772), (1, vI v142774), (0, .ref r0)]) rfl rfl rfl ?_)
          refine wp_of e257 c257_44 (rw_iload (pc' := 46) (z := v142772) rfl rfl ?_)
          refine wp_of e257 c257_46 (rw_istore_n (pc' := 47) (z := v142772) (L' := [(1, vI v142772), (2, vL z142844), (4, vI v142772), (0, .ref r0)]) rfl rfl rfl ?_)
          refine wp_of e257 c257_47 (rw_iinc (pc' := 50) (z := v142772) (L' := [(4, vI (v142772 + 1)), (1, vI v142772), (2, vL z142844), (0, .ref r0)]) rfl rfl rfl rfl ?_)
          refine wp_of e257 c257_50 (rw_goto (p1 := 7) (by decide) ?_)
          have k142846 : H142816 r0 29 = H142775 r0 29 := (f142821 r0 29 _ g0 rfl)
          exact wp_lc (ks := [4, 1, 2, 0]) (wl_c rfl (wl_c rfl (wl_c rfl (wl_c rfl wl_n)))) rfl (by decide) (ih142771 _ (by omega) (v142772 + 1) z142844 v142772 H142816 w142820 f142823 ⟨by omega, by omega⟩ ⟨by omega, by omega⟩ ⟨by omega, by omega⟩ (by omega) (by omega) rfl)
        · refine wp_of e257 c257_36 (rw_goto (p1 := 47) (by decide) ?_)
          refine wp_of e257 c257_47 (rw_iinc (pc' := 50) (z := v142772) (L' := [(4, vI (v142772 + 1)), (2, vL v142773), (1, vI v142774), (0, .ref r0)]) rfl rfl rfl rfl ?_)
          refine wp_of e257 c257_50 (rw_goto (p1 := 7) (by decide) ?_)
          have k142847 : H142816 r0 29 = H142775 r0 29 := (f142821 r0 29 _ g0 rfl)
          exact wp_lc (ks := [4, 2, 1, 0]) (wl_c rfl (wl_c rfl (wl_c rfl (wl_c rfl wl_n)))) rfl (by decide) (ih142771 _ (by omega) (v142772 + 1) v142773 v142774 H142816 w142820 f142823 ⟨by omega, by omega⟩ ⟨by omega, by omega⟩ ⟨by omega, by omega⟩ (by omega) (by omega) rfl)
  exact wp_lc (ks := [4, 2, 1, 0]) (wl_c rfl (wl_c rfl (wl_c rfl (wl_c rfl wl_n)))) rfl (by decide) (lp142769 _ 0 0 (-1) H hW wfr.rf ⟨by omega, by omega⟩ ⟨by omega, by omega⟩ ⟨by omega, by omega⟩ (by omega) (by omega) rfl)
