/-! methods of the reference (own work, written by wip/gen2/sx.py) -/
/-! StrikeAwakeModel.known()I -/
theorem e195 : wq_en 195 = some (9, 2, false, some FieldType.int) := rfl
theorem c195_0 : mc_cd 195 0 = some (.aload_n 0, 1) := by decide +kernel
theorem c195_1 : mc_cd 195 1 = some (.invokevirtual 162, 3) := by decide +kernel
theorem c195_4 : mc_cd 195 4 = some (.ifCond .ne 8, 3) := by decide +kernel
theorem c195_7 : mc_cd 195 7 = some (.aload_n 0, 1) := by decide +kernel
theorem c195_8 : mc_cd 195 8 = some (.iconst 1, 1) := by decide +kernel
theorem c195_9 : mc_cd 195 9 = some (.invokevirtual 121, 3) := by decide +kernel
theorem c195_12 : mc_cd 195 12 = some (.aload_n 0, 1) := by decide +kernel
theorem c195_13 : mc_cd 195 13 = some (.getfield 166, 3) := by decide +kernel
theorem c195_16 : mc_cd 195 16 = some (.aload_n 0, 1) := by decide +kernel
theorem c195_17 : mc_cd 195 17 = some (.getfield 94, 3) := by decide +kernel
theorem c195_20 : mc_cd 195 20 = some (.invokevirtual 170, 3) := by decide +kernel
theorem c195_23 : mc_cd 195 23 = some (.istore_n 1, 1) := by decide +kernel
theorem c195_24 : mc_cd 195 24 = some (.iload_n 1, 1) := by decide +kernel
theorem c195_25 : mc_cd 195 25 = some (.iconst (-1), 1) := by decide +kernel
theorem c195_26 : mc_cd 195 26 = some (.if_icmp .ne 8, 3) := by decide +kernel
theorem c195_29 : mc_cd 195 29 = some (.aload_n 0, 1) := by decide +kernel
theorem c195_30 : mc_cd 195 30 = some (.iconst 2, 1) := by decide +kernel
theorem c195_31 : mc_cd 195 31 = some (.invokevirtual 121, 3) := by decide +kernel
theorem c195_34 : mc_cd 195 34 = some (.aload_n 0, 1) := by decide +kernel
theorem c195_35 : mc_cd 195 35 = some (.getfield 75, 3) := by decide +kernel
theorem c195_38 : mc_cd 195 38 = some (.iconst 5, 1) := by decide +kernel
theorem c195_39 : mc_cd 195 39 = some (.if_icmp .ne 7, 3) := by decide +kernel
theorem c195_42 : mc_cd 195 42 = some (.iconst 0, 1) := by decide +kernel
theorem c195_43 : mc_cd 195 43 = some (.goto 4, 3) := by decide +kernel
theorem c195_46 : mc_cd 195 46 = some (.iload_n 1, 1) := by decide +kernel
theorem c195_47 : mc_cd 195 47 = some (.ireturn, 1) := by decide +kernel
abbrev q_195 (r0 : Nat) (rp : Nat) (T : wq_T) (H : wq_H) : Option Value → wq_T → wq_H → Prop := fun r T' H' => T = T' ∧ WT T H' ∧ wfr [(42, 9), (42, 13), (42, 14)] T H H' ∧ ∃ z : Int, some (vI z) = r ∧ (0 ≤ z ∧ z ≤ 5) ∧ (wJ H' r0 = 1) ∧ (H r0 10 ≤ H' r0 10) ∧ (wOV H r0 ≤ wOV H' r0) ∧ (wOV H' r0 ≤ 1)
set_option maxHeartbeats 4000000 in
theorem s_195 {kt : Nat → Option mc_E} {T : wq_T} {H : wq_H} {r0 : Nat} {rp : Nat} (hW : WT T H) (g0 : T.2.2.2 r0 = some 42) (qrp : H r0 4 = (rp : Int)) (grp : T.2.2.2 rp = some 54) (p0 : wJ H r0 = 1) : wpc kt 4 195 [.ref r0] T H (q_195 r0 rp T H) := by
  refine wp_enter e195 (Nat.le_of_ble_eq_true rfl) rfl ?_
  have f0 : wfr [(42, 9), (42, 13), (42, 14)] T H H := wfr.rf
  show wp _ _ 195 0 [(0, .ref r0)] [] _ H _
  have b90290 : (-2147483648) ≤ H r0 10 ∧ H r0 10 ≤ 2147483647 := hW.box g0 (n := 33) rfl (by decide) rfl
  have b90291 : 0 ≤ H r0 9 ∧ H r0 9 ≤ 5 := hW.box g0 (n := 33) rfl (by decide) rfl
  have b90292 : 0 ≤ H r0 8 ∧ H r0 8 ≤ 900 := hW.box g0 (n := 33) rfl (by decide) rfl
  have hb0 := wOV_b (H := H) (m := r0)
  refine wp_of e195 c195_0 (rw_aload_n (pc' := 1) (v := .ref r0) rfl rfl rfl ?_)
  refine wp_of e195 c195_1 (xc_V (pc' := 4) (r := r0) (as := []) (st := []) (lm_9_162) rfl rfl (Nat.le_of_ble_eq_true rfl) hW g0 sh_42 (by decide) rfl (by decide) (s_189 hW g0) (fun R90293 T90294 H90295 p90296 => ?_))
  obtain ⟨e90297, e90299, z90300, e90298, b90301⟩ := p90296
  subst e90297
  subst e90298
  subst e90299
  show wp _ _ 195 4 [(0, .ref r0)] [vI z90300] _ H _
  refine wp_of e195 c195_4 (rw_if_ne (p1 := 12) (p2 := 7) (by decide) rfl ⟨by omega, by omega⟩ (fun c90302 => ?_) (fun c90302 => ?_))
  · refine wp_of e195 c195_12 (rw_aload_n (pc' := 13) (v := .ref r0) rfl rfl rfl ?_)
    refine wp_of e195 c195_13 (xg_K (pc' := 16) lf_9_166 hW g0 sh_42 (by decide) (by decide) rfl qrp rfl ?_)
    refine wp_of e195 c195_16 (rw_aload_n (pc' := 17) (v := .ref r0) rfl rfl rfl ?_)
    refine wp_of e195 c195_17 (xg_L (pc' := 20) lf_9_94 hW g0 sh_42 (by decide) (by decide) ty_42_15 rfl rfl (fun b90303 b90304 => ?_))
    refine wp_of e195 c195_20 (xc_V (pc' := 23) (r := rp) (as := [vL (H r0 15)]) (st := []) (lm_9_170) rfl rfl (Nat.le_of_ble_eq_true rfl) hW grp sh_54 (by decide) rfl (by decide) (s_190 hW grp ⟨by omega, by omega⟩) (fun R90305 T90306 H90307 p90308 => ?_))
    obtain ⟨e90309, e90311, z90312, e90310, b90313⟩ := p90308
    subst e90309
    subst e90310
    subst e90311
    show wp _ _ 195 23 [(0, .ref r0)] [vI z90312] _ H _
    refine wp_of e195 c195_23 (rw_istore_n (pc' := 24) (z := z90312) (L' := [(1, vI z90312), (0, .ref r0)]) rfl rfl rfl ?_)
    refine wp_of e195 c195_24 (rw_iload_n (pc' := 25) (z := z90312) rfl rfl ?_)
    refine wp_of e195 c195_25 (rw_iconst (pc' := 26) rfl ?_)
    refine wp_of e195 c195_26 (rw_icmp_ne (p1 := 34) (p2 := 29) (by decide) rfl ⟨by omega, by omega⟩ ⟨by omega, by omega⟩ (fun c90314 => ?_) (fun c90314 => ?_))
    · refine wp_of e195 c195_34 (rw_aload_n (pc' := 35) (v := .ref r0) rfl rfl rfl ?_)
      refine wp_of e195 c195_35 (xg_I (pc' := 38) lf_9_75 hW g0 sh_42 (by decide) (by decide) ty_42_9 rfl rfl (fun b90315 b90316 => ?_))
      have k90317 := wOV_e (H := H) (m := r0)
      refine wp_of e195 c195_38 (rw_iconst (pc' := 39) rfl ?_)
      refine wp_of e195 c195_39 (rw_icmp_ne (p1 := 46) (p2 := 42) (by decide) rfl ⟨by omega, by omega⟩ ⟨by omega, by omega⟩ (fun c90318 => ?_) (fun c90318 => ?_))
      · refine wp_of e195 c195_46 (rw_iload_n (pc' := 47) (z := z90312) rfl rfl ?_)
        exact wp_ireturn e195 c195_47 rfl ⟨rfl, hW, f0, z90312, rfl, ⟨by omega, by omega⟩, by omega, by omega, by omega, by omega⟩
      · refine wp_of e195 c195_42 (rw_iconst (pc' := 43) rfl ?_)
        refine wp_of e195 c195_43 (rw_goto (p1 := 47) (by decide) ?_)
        exact wp_ireturn e195 c195_47 rfl ⟨rfl, hW, f0, 0, rfl, ⟨by omega, by omega⟩, by omega, by omega, by omega, by omega⟩
    · refine wp_of e195 c195_29 (rw_aload_n (pc' := 30) (v := .ref r0) rfl rfl rfl ?_)
      refine wp_of e195 c195_30 (rw_iconst (pc' := 31) rfl ?_)
      refine wp_of e195 c195_31 (xc_V (pc' := 34) (r := r0) (as := [vI 2]) (st := []) (lm_9_121) rfl rfl (Nat.le_of_ble_eq_true rfl) hW g0 sh_42 (by decide) rfl (by decide) (s_181 hW g0 ⟨by omega, by omega⟩ (by omega)) (fun R90319 T90320 H90321 p90322 => ?_))
      obtain ⟨e90323, w90325, f90326, e90324, p90327, p90328, p90329, p90330, p90331, p90332⟩ := p90322
      subst e90323
      subst e90324
      have f90333 := f0.tr f90326 rfl
      show wp _ _ 195 34 [(1, vI z90312), (0, .ref r0)] [] _ H90321 _
      refine wp_of e195 c195_34 (rw_aload_n (pc' := 35) (v := .ref r0) rfl rfl rfl ?_)
      refine wp_of e195 c195_35 (xg_I (pc' := 38) lf_9_75 w90325 g0 sh_42 (by decide) (by decide) ty_42_9 rfl rfl (fun b90334 b90335 => ?_))
      have k90336 := wOV_e (H := H90321) (m := r0)
      refine wp_of e195 c195_38 (rw_iconst (pc' := 39) rfl ?_)
      refine wp_of e195 c195_39 (rw_icmp_ne (p1 := 46) (p2 := 42) (by decide) rfl ⟨by omega, by omega⟩ ⟨by omega, by omega⟩ (fun c90337 => ?_) (fun c90337 => ?_))
      · refine wp_of e195 c195_46 (rw_iload_n (pc' := 47) (z := z90312) rfl rfl ?_)
        have k90338 : H90321 r0 8 = H r0 8 := (f90326 r0 8 _ g0 rfl)
        exact wp_ireturn e195 c195_47 rfl ⟨rfl, w90325, f90333, z90312, rfl, ⟨by omega, by omega⟩, by omega, by omega, by omega, by omega⟩
      · refine wp_of e195 c195_42 (rw_iconst (pc' := 43) rfl ?_)
        refine wp_of e195 c195_43 (rw_goto (p1 := 47) (by decide) ?_)
        have k90339 : H90321 r0 8 = H r0 8 := (f90326 r0 8 _ g0 rfl)
        exact wp_ireturn e195 c195_47 rfl ⟨rfl, w90325, f90333, 0, rfl, ⟨by omega, by omega⟩, by omega, by omega, by omega, by omega⟩
  · refine wp_of e195 c195_7 (rw_aload_n (pc' := 8) (v := .ref r0) rfl rfl rfl ?_)
    refine wp_of e195 c195_8 (rw_iconst (pc' := 9) rfl ?_)
    refine wp_of e195 c195_9 (xc_V (pc' := 12) (r := r0) (as := [vI 1]) (st := []) (lm_9_121) rfl rfl (Nat.le_of_ble_eq_true rfl) hW g0 sh_42 (by decide) rfl (by decide) (s_181 hW g0 ⟨by omega, by omega⟩ (by omega)) (fun R90340 T90341 H90342 p90343 => ?_))
    obtain ⟨e90344, w90346, f90347, e90345, p90348, p90349, p90350, p90351, p90352, p90353⟩ := p90343
    subst e90344
    subst e90345
    have f90354 := f0.tr f90347 rfl
    show wp _ _ 195 12 [(0, .ref r0)] [] _ H90342 _
    refine wp_of e195 c195_12 (rw_aload_n (pc' := 13) (v := .ref r0) rfl rfl rfl ?_)
    have k90355 : H90342 r0 4 = H r0 4 := (f90347 r0 4 _ g0 rfl)
    have q90356 : H90342 r0 4 = (rp : Int) := k90355.trans qrp
    refine wp_of e195 c195_13 (xg_K (pc' := 16) lf_9_166 w90346 g0 sh_42 (by decide) (by decide) rfl q90356 rfl ?_)
    refine wp_of e195 c195_16 (rw_aload_n (pc' := 17) (v := .ref r0) rfl rfl rfl ?_)
    refine wp_of e195 c195_17 (xg_L (pc' := 20) lf_9_94 w90346 g0 sh_42 (by decide) (by decide) ty_42_15 rfl rfl (fun b90357 b90358 => ?_))
    refine wp_of e195 c195_20 (xc_V (pc' := 23) (r := rp) (as := [vL (H90342 r0 15)]) (st := []) (lm_9_170) rfl rfl (Nat.le_of_ble_eq_true rfl) w90346 grp sh_54 (by decide) rfl (by decide) (s_190 w90346 grp ⟨by omega, by omega⟩) (fun R90359 T90360 H90361 p90362 => ?_))
    obtain ⟨e90363, e90365, z90366, e90364, b90367⟩ := p90362
    subst e90363
    subst e90364
    subst e90365
    show wp _ _ 195 23 [(0, .ref r0)] [vI z90366] _ H90342 _
    refine wp_of e195 c195_23 (rw_istore_n (pc' := 24) (z := z90366) (L' := [(1, vI z90366), (0, .ref r0)]) rfl rfl rfl ?_)
    refine wp_of e195 c195_24 (rw_iload_n (pc' := 25) (z := z90366) rfl rfl ?_)
    refine wp_of e195 c195_25 (rw_iconst (pc' := 26) rfl ?_)
    refine wp_of e195 c195_26 (rw_icmp_ne (p1 := 34) (p2 := 29) (by decide) rfl ⟨by omega, by omega⟩ ⟨by omega, by omega⟩ (fun c90368 => ?_) (fun c90368 => ?_))
    · refine wp_of e195 c195_34 (rw_aload_n (pc' := 35) (v := .ref r0) rfl rfl rfl ?_)
      refine wp_of e195 c195_35 (xg_I (pc' := 38) lf_9_75 w90346 g0 sh_42 (by decide) (by decide) ty_42_9 rfl rfl (fun b90369 b90370 => ?_))
      have k90371 := wOV_e (H := H90342) (m := r0)
      refine wp_of e195 c195_38 (rw_iconst (pc' := 39) rfl ?_)
      refine wp_of e195 c195_39 (rw_icmp_ne (p1 := 46) (p2 := 42) (by decide) rfl ⟨by omega, by omega⟩ ⟨by omega, by omega⟩ (fun c90372 => ?_) (fun c90372 => ?_))
      · refine wp_of e195 c195_46 (rw_iload_n (pc' := 47) (z := z90366) rfl rfl ?_)
        have k90373 : H90342 r0 8 = H r0 8 := (f90347 r0 8 _ g0 rfl)
        exact wp_ireturn e195 c195_47 rfl ⟨rfl, w90346, f90354, z90366, rfl, ⟨by omega, by omega⟩, by omega, by omega, by omega, by omega⟩
      · refine wp_of e195 c195_42 (rw_iconst (pc' := 43) rfl ?_)
        refine wp_of e195 c195_43 (rw_goto (p1 := 47) (by decide) ?_)
        have k90374 : H90342 r0 8 = H r0 8 := (f90347 r0 8 _ g0 rfl)
        exact wp_ireturn e195 c195_47 rfl ⟨rfl, w90346, f90354, 0, rfl, ⟨by omega, by omega⟩, by omega, by omega, by omega, by omega⟩
    · refine wp_of e195 c195_29 (rw_aload_n (pc' := 30) (v := .ref r0) rfl rfl rfl ?_)
      refine wp_of e195 c195_30 (rw_iconst (pc' := 31) rfl ?_)
      refine wp_of e195 c195_31 (xc_V (pc' := 34) (r := r0) (as := [vI 2]) (st := []) (lm_9_121) rfl rfl (Nat.le_of_ble_eq_true rfl) w90346 g0 sh_42 (by decide) rfl (by decide) (s_181 w90346 g0 ⟨by omega, by omega⟩ (by omega)) (fun R90375 T90376 H90377 p90378 => ?_))
      obtain ⟨e90379, w90381, f90382, e90380, p90383, p90384, p90385, p90386, p90387, p90388⟩ := p90378
      subst e90379
      subst e90380
      have f90389 := f90354.tr f90382 rfl
      show wp _ _ 195 34 [(1, vI z90366), (0, .ref r0)] [] _ H90377 _
      refine wp_of e195 c195_34 (rw_aload_n (pc' := 35) (v := .ref r0) rfl rfl rfl ?_)
      refine wp_of e195 c195_35 (xg_I (pc' := 38) lf_9_75 w90381 g0 sh_42 (by decide) (by decide) ty_42_9 rfl rfl (fun b90390 b90391 => ?_))
      have k90392 := wOV_e (H := H90377) (m := r0)
      refine wp_of e195 c195_38 (rw_iconst (pc' := 39) rfl ?_)
      refine wp_of e195 c195_39 (rw_icmp_ne (p1 := 46) (p2 := 42) (by decide) rfl ⟨by omega, by omega⟩ ⟨by omega, by omega⟩ (fun c90393 => ?_) (fun c90393 => ?_))
      · refine wp_of e195 c195_46 (rw_iload_n (pc' := 47) (z := z90366) rfl rfl ?_)
        have k90394 : H90377 r0 8 = H r0 8 := ((f90382 r0 8 _ g0 rfl).trans (f90347 r0 8 _ g0 rfl))
        exact wp_ireturn e195 c195_47 rfl ⟨rfl, w90381, f90389, z90366, rfl, ⟨by omega, by omega⟩, by omega, by omega, by omega, by omega⟩
      · refine wp_of e195 c195_42 (rw_iconst (pc' := 43) rfl ?_)
        refine wp_of e195 c195_43 (rw_goto (p1 := 47) (by decide) ?_)
        have k90395 : H90377 r0 8 = H r0 8 := ((f90382 r0 8 _ g0 rfl).trans (f90347 r0 8 _ g0 rfl))
        exact wp_ireturn e195 c195_47 rfl ⟨rfl, w90381, f90389, 0, rfl, ⟨by omega, by omega⟩, by omega, by omega, by omega, by omega⟩
/-! StrikeAwakeModel.readKnown()I -/
theorem e194 : wq_en 194 = some (9, 2, false, some FieldType.int) := rfl
theorem c194_0 : mc_cd 194 0 = some (.aload_n 0, 1) := by decide +kernel
theorem c194_1 : mc_cd 194 1 = some (.invokevirtual 176, 3) := by decide +kernel
theorem c194_4 : mc_cd 194 4 = some (.istore_n 1, 1) := by decide +kernel
theorem c194_5 : mc_cd 194 5 = some (.aload_n 0, 1) := by decide +kernel
theorem c194_6 : mc_cd 194 6 = some (.invokevirtual 118, 3) := by decide +kernel
theorem c194_9 : mc_cd 194 9 = some (.iload_n 1, 1) := by decide +kernel
theorem c194_10 : mc_cd 194 10 = some (.ireturn, 1) := by decide +kernel
abbrev q_194 (r0 : Nat) (rp : Nat) (T : wq_T) (H : wq_H) : Option Value → wq_T → wq_H → Prop := fun r T' H' => T = T' ∧ WT T H' ∧ wfr [(42, 8), (42, 9), (42, 10), (42, 11), (42, 12), (42, 13), (42, 14), (42, 15)] T H H' ∧ ∃ z : Int, some (vI z) = r ∧ (0 ≤ z ∧ z ≤ 5) ∧ (wJ H' r0 = 1) ∧ (H r0 10 ≤ H' r0 10) ∧ (wOV H r0 ≤ wOV H' r0) ∧ (wOV H' r0 ≤ 1)
set_option maxHeartbeats 4000000 in
theorem s_194 {kt : Nat → Option mc_E} {T : wq_T} {H : wq_H} {r0 : Nat} {rp : Nat} (hW : WT T H) (g0 : T.2.2.2 r0 = some 42) (qrp : H r0 4 = (rp : Int)) (grp : T.2.2.2 rp = some 54) (p0 : wJ H r0 = 1) : wpc kt 5 194 [.ref r0] T H (q_194 r0 rp T H) := by
  refine wp_enter e194 (Nat.le_of_ble_eq_true rfl) rfl ?_
  have f0 : wfr [(42, 8), (42, 9), (42, 10), (42, 11), (42, 12), (42, 13), (42, 14), (42, 15)] T H H := wfr.rf
  show wp _ _ 194 0 [(0, .ref r0)] [] _ H _
  have b90426 : (-2147483648) ≤ H r0 10 ∧ H r0 10 ≤ 2147483647 := hW.box g0 (n := 33) rfl (by decide) rfl
  have b90427 : 0 ≤ H r0 9 ∧ H r0 9 ≤ 5 := hW.box g0 (n := 33) rfl (by decide) rfl
  have b90428 : 0 ≤ H r0 8 ∧ H r0 8 ≤ 900 := hW.box g0 (n := 33) rfl (by decide) rfl
  have hb0 := wOV_b (H := H) (m := r0)
  refine wp_of e194 c194_0 (rw_aload_n (pc' := 1) (v := .ref r0) rfl rfl rfl ?_)
  refine wp_of e194 c194_1 (xc_V (pc' := 4) (r := r0) (as := []) (st := []) (lm_9_176) rfl rfl (Nat.le_of_ble_eq_true rfl) hW g0 sh_42 (by decide) rfl (by decide) (s_195 hW g0 qrp grp (by omega)) (fun R90429 T90430 H90431 p90432 => ?_))
  obtain ⟨e90433, w90435, f90436, z90441, e90434, b90442, p90437, p90438, p90439, p90440⟩ := p90432
  subst e90433
  subst e90434
  have f90443 := f0.tr f90436 rfl
  show wp _ _ 194 4 [(0, .ref r0)] [vI z90441] _ H90431 _
  refine wp_of e194 c194_4 (rw_istore_n (pc' := 5) (z := z90441) (L' := [(1, vI z90441), (0, .ref r0)]) rfl rfl rfl ?_)
  refine wp_of e194 c194_5 (rw_aload_n (pc' := 6) (v := .ref r0) rfl rfl rfl ?_)
  refine wp_of e194 c194_6 (xc_V (pc' := 9) (r := r0) (as := []) (st := []) (lm_9_118) rfl rfl (Nat.le_of_ble_eq_true rfl) w90435 g0 sh_42 (by decide) rfl (by decide) (s_172 w90435 g0 (by omega)) (fun R90444 T90445 H90446 p90447 => ?_))
  obtain ⟨e90448, w90450, f90451, e90449, p90452, p90453, p90454, p90455, p90456, p90457⟩ := p90447
  subst e90448
  subst e90449
  have f90458 := f90443.tr f90451 rfl
  show wp _ _ 194 9 [(1, vI z90441), (0, .ref r0)] [] _ H90446 _
  refine wp_of e194 c194_9 (rw_iload_n (pc' := 10) (z := z90441) rfl rfl ?_)
  exact wp_ireturn e194 c194_10 rfl ⟨rfl, w90450, f90458, z90441, rfl, ⟨by omega, by omega⟩, by omega, by omega, by omega, by omega⟩
/-! StrikeAwakeModel.readSexton()V -/
theorem e193 : wq_en 193 = some (9, 2, false, none) := rfl
theorem c193_0 : mc_cd 193 0 = some (.aload_n 0, 1) := by decide +kernel
theorem c193_1 : mc_cd 193 1 = some (.getfield 166, 3) := by decide +kernel
theorem c193_4 : mc_cd 193 4 = some (.getfield 271, 3) := by decide +kernel
theorem c193_7 : mc_cd 193 7 = some (.iconst (-1), 1) := by decide +kernel
theorem c193_8 : mc_cd 193 8 = some (.if_icmp .eq 8, 3) := by decide +kernel
theorem c193_11 : mc_cd 193 11 = some (.aload_n 0, 1) := by decide +kernel
theorem c193_12 : mc_cd 193 12 = some (.iconst 3, 1) := by decide +kernel
theorem c193_13 : mc_cd 193 13 = some (.invokevirtual 121, 3) := by decide +kernel
theorem c193_16 : mc_cd 193 16 = some (.aload_n 0, 1) := by decide +kernel
theorem c193_17 : mc_cd 193 17 = some (.invokevirtual 118, 3) := by decide +kernel
theorem c193_20 : mc_cd 193 20 = some (.aload_n 0, 1) := by decide +kernel
theorem c193_21 : mc_cd 193 21 = some (.invokevirtual 273, 3) := by decide +kernel
theorem c193_24 : mc_cd 193 24 = some (.istore_n 1, 1) := by decide +kernel
theorem c193_25 : mc_cd 193 25 = some (.aload_n 0, 1) := by decide +kernel
theorem c193_26 : mc_cd 193 26 = some (.getfield 75, 3) := by decide +kernel
theorem c193_29 : mc_cd 193 29 = some (.iconst 5, 1) := by decide +kernel
theorem c193_30 : mc_cd 193 30 = some (.if_icmp .eq 11, 3) := by decide +kernel
theorem c193_33 : mc_cd 193 33 = some (.aload_n 0, 1) := by decide +kernel
theorem c193_34 : mc_cd 193 34 = some (.getfield 166, 3) := by decide +kernel
theorem c193_37 : mc_cd 193 37 = some (.iload_n 1, 1) := by decide +kernel
theorem c193_38 : mc_cd 193 38 = some (.putfield 271, 3) := by decide +kernel
theorem c193_41 : mc_cd 193 41 = some (.return_, 1) := by decide +kernel
abbrev q_193 (r0 : Nat) (rp : Nat) (T : wq_T) (H : wq_H) : Option Value → wq_T → wq_H → Prop := fun r T' H' => T = T' ∧ WT T H' ∧ wfr [(54, 8), (42, 8), (42, 9), (42, 10), (42, 11), (42, 12), (42, 13), (42, 14), (42, 15)] T H H' ∧ none = r ∧ (wJ H' r0 = 1) ∧ (H r0 10 ≤ H' r0 10) ∧ (wOV H r0 ≤ wOV H' r0) ∧ (wOV H' r0 ≤ 1)
set_option maxHeartbeats 4000000 in
theorem s_193 {kt : Nat → Option mc_E} {T : wq_T} {H : wq_H} {r0 : Nat} {rp : Nat} (hW : WT T H) (g0 : T.2.2.2 r0 = some 42) (qrp : H r0 4 = (rp : Int)) (grp : T.2.2.2 rp = some 54) (p0 : wJ H r0 = 1) : wpc kt 6 193 [.ref r0] T H (q_193 r0 rp T H) := by
  refine wp_enter e193 (Nat.le_of_ble_eq_true rfl) rfl ?_
  have f0 : wfr [(54, 8), (42, 8), (42, 9), (42, 10), (42, 11), (42, 12), (42, 13), (42, 14), (42, 15)] T H H := wfr.rf
  show wp _ _ 193 0 [(0, .ref r0)] [] _ H _
  have b90571 : (-2147483648) ≤ H r0 10 ∧ H r0 10 ≤ 2147483647 := hW.box g0 (n := 33) rfl (by decide) rfl
  have b90572 : 0 ≤ H r0 9 ∧ H r0 9 ≤ 5 := hW.box g0 (n := 33) rfl (by decide) rfl
  have b90573 : 0 ≤ H r0 8 ∧ H r0 8 ≤ 900 := hW.box g0 (n := 33) rfl (by decide) rfl
  have hb0 := wOV_b (H := H) (m := r0)
  refine wp_of e193 c193_0 (rw_aload_n (pc' := 1) (v := .ref r0) rfl rfl rfl ?_)
  refine wp_of e193 c193_1 (xg_K (pc' := 4) lf_9_166 hW g0 sh_42 (by decide) (by decide) rfl qrp rfl ?_)
  refine wp_of e193 c193_4 (xg_I (pc' := 7) lf_9_271 hW grp sh_54 (by decide) (by decide) ty_54_8 rfl rfl (fun b90574 b90575 => ?_))
  refine wp_of e193 c193_7 (rw_iconst (pc' := 8) rfl ?_)
  refine wp_of e193 c193_8 (rw_icmp_eq (p1 := 16) (p2 := 11) (by decide) rfl ⟨by omega, by omega⟩ ⟨by omega, by omega⟩ (fun c90576 => ?_) (fun c90576 => ?_))
  · refine wp_of e193 c193_16 (rw_aload_n (pc' := 17) (v := .ref r0) rfl rfl rfl ?_)
    refine wp_of e193 c193_17 (xc_V (pc' := 20) (r := r0) (as := []) (st := []) (lm_9_118) rfl rfl (Nat.le_of_ble_eq_true rfl) hW g0 sh_42 (by decide) rfl (by decide) (s_172 hW g0 (by omega)) (fun R90577 T90578 H90579 p90580 => ?_))
    obtain ⟨e90581, w90583, f90584, e90582, p90585, p90586, p90587, p90588, p90589, p90590⟩ := p90580
    subst e90581
    subst e90582
    have f90591 := f0.tr f90584 rfl
    show wp _ _ 193 20 [(0, .ref r0)] [] _ H90579 _
    refine wp_of e193 c193_20 (rw_aload_n (pc' := 21) (v := .ref r0) rfl rfl rfl ?_)
    have k90592 : H90579 r0 4 = H r0 4 := (f90584 r0 4 _ g0 rfl)
    have q90593 : H90579 r0 4 = (rp : Int) := k90592.trans qrp
    refine wp_of e193 c193_21 (xc_V (pc' := 24) (r := r0) (as := []) (st := []) (lm_9_273) rfl rfl (Nat.le_of_ble_eq_true rfl) w90583 g0 sh_42 (by decide) rfl (by decide) (s_194 w90583 g0 q90593 grp (by omega)) (fun R90594 T90595 H90596 p90597 => ?_))
    obtain ⟨e90598, w90600, f90601, z90606, e90599, b90607, p90602, p90603, p90604, p90605⟩ := p90597
    subst e90598
    subst e90599
    have f90608 := f90591.tr f90601 rfl
    show wp _ _ 193 24 [(0, .ref r0)] [vI z90606] _ H90596 _
    refine wp_of e193 c193_24 (rw_istore_n (pc' := 25) (z := z90606) (L' := [(1, vI z90606), (0, .ref r0)]) rfl rfl rfl ?_)
    refine wp_of e193 c193_25 (rw_aload_n (pc' := 26) (v := .ref r0) rfl rfl rfl ?_)
    refine wp_of e193 c193_26 (xg_I (pc' := 29) lf_9_75 w90600 g0 sh_42 (by decide) (by decide) ty_42_9 rfl rfl (fun b90609 b90610 => ?_))
    have k90611 := wOV_e (H := H90596) (m := r0)
    refine wp_of e193 c193_29 (rw_iconst (pc' := 30) rfl ?_)
    refine wp_of e193 c193_30 (rw_icmp_eq (p1 := 41) (p2 := 33) (by decide) rfl ⟨by omega, by omega⟩ ⟨by omega, by omega⟩ (fun c90612 => ?_) (fun c90612 => ?_))
    · exact wp_return e193 c193_41 rfl ⟨rfl, w90600, f90608, rfl, by omega, by omega, by omega, by omega⟩
    · refine wp_of e193 c193_33 (rw_aload_n (pc' := 34) (v := .ref r0) rfl rfl rfl ?_)
      have k90613 : H90596 r0 4 = H90579 r0 4 := (f90601 r0 4 _ g0 rfl)
      have q90614 : H90596 r0 4 = (rp : Int) := k90613.trans q90593
      refine wp_of e193 c193_34 (xg_K (pc' := 37) lf_9_166 w90600 g0 sh_42 (by decide) (by decide) rfl q90614 rfl ?_)
      refine wp_of e193 c193_37 (rw_iload_n (pc' := 38) (z := z90606) rfl rfl ?_)
      refine wp_of e193 c193_38 (xp_I (pc' := 41) lf_9_271 w90600 grp sh_54 (by decide) (by decide) ty_54_8 rfl rfl (by omega) (by omega) ⟨by omega, by omega⟩ rfl (fun H90615 e90616 w90617 => ?_))
      have f90618 := f90608.put' e90616 grp rfl
      have k90619 : H90615 rp 8 = z90606 := wq_u_s e90616
      have k90620 : H90615 r0 9 = H90596 r0 9 := (wq_u_t e90616 grp g0 rfl 9)
      have k90621 : H90615 r0 10 = H90596 r0 10 := (wq_u_t e90616 grp g0 rfl 10)
      have k90622 : wOV H90615 r0 = wOV H90596 r0 := (wOV_fr w90600 g0 ((wfr.rf (l := [(54, 8)])).put' e90616 grp rfl) rfl)
      have k90623 : wJ H90615 r0 = wJ H90596 r0 := (wJ_fr w90600 g0 ((wfr.rf (l := [(54, 8)])).put' e90616 grp rfl) rfl)
      exact wp_return e193 c193_41 rfl ⟨rfl, w90617, f90618, rfl, by omega, by omega, by omega, by omega⟩
  · refine wp_of e193 c193_11 (rw_aload_n (pc' := 12) (v := .ref r0) rfl rfl rfl ?_)
    refine wp_of e193 c193_12 (rw_iconst (pc' := 13) rfl ?_)
    refine wp_of e193 c193_13 (xc_V (pc' := 16) (r := r0) (as := [vI 3]) (st := []) (lm_9_121) rfl rfl (Nat.le_of_ble_eq_true rfl) hW g0 sh_42 (by decide) rfl (by decide) (s_181 hW g0 ⟨by omega, by omega⟩ (by omega)) (fun R90624 T90625 H90626 p90627 => ?_))
    obtain ⟨e90628, w90630, f90631, e90629, p90632, p90633, p90634, p90635, p90636, p90637⟩ := p90627
    subst e90628
    subst e90629
    have f90638 := f0.tr f90631 rfl
    show wp _ _ 193 16 [(0, .ref r0)] [] _ H90626 _
    refine wp_of e193 c193_16 (rw_aload_n (pc' := 17) (v := .ref r0) rfl rfl rfl ?_)
    refine wp_of e193 c193_17 (xc_V (pc' := 20) (r := r0) (as := []) (st := []) (lm_9_118) rfl rfl (Nat.le_of_ble_eq_true rfl) w90630 g0 sh_42 (by decide) rfl (by decide) (s_172 w90630 g0 (by omega)) (fun R90639 T90640 H90641 p90642 => ?_))
    obtain ⟨e90643, w90645, f90646, e90644, p90647, p90648, p90649, p90650, p90651, p90652⟩ := p90642
    subst e90643
    subst e90644
    have f90653 := f90638.tr f90646 rfl
    show wp _ _ 193 20 [(0, .ref r0)] [] _ H90641 _
    refine wp_of e193 c193_20 (rw_aload_n (pc' := 21) (v := .ref r0) rfl rfl rfl ?_)
    have k90654 : H90641 r0 4 = H r0 4 := ((f90646 r0 4 _ g0 rfl).trans (f90631 r0 4 _ g0 rfl))
    have q90655 : H90641 r0 4 = (rp : Int) := k90654.trans qrp
    refine wp_of e193 c193_21 (xc_V (pc' := 24) (r := r0) (as := []) (st := []) (lm_9_273) rfl rfl (Nat.le_of_ble_eq_true rfl) w90645 g0 sh_42 (by decide) rfl (by decide) (s_194 w90645 g0 q90655 grp (by omega)) (fun R90656 T90657 H90658 p90659 => ?_))
    obtain ⟨e90660, w90662, f90663, z90668, e90661, b90669, p90664, p90665, p90666, p90667⟩ := p90659
    subst e90660
    subst e90661
    have f90670 := f90653.tr f90663 rfl
    show wp _ _ 193 24 [(0, .ref r0)] [vI z90668] _ H90658 _
    refine wp_of e193 c193_24 (rw_istore_n (pc' := 25) (z := z90668) (L' := [(1, vI z90668), (0, .ref r0)]) rfl rfl rfl ?_)
    refine wp_of e193 c193_25 (rw_aload_n (pc' := 26) (v := .ref r0) rfl rfl rfl ?_)
    refine wp_of e193 c193_26 (xg_I (pc' := 29) lf_9_75 w90662 g0 sh_42 (by decide) (by decide) ty_42_9 rfl rfl (fun b90671 b90672 => ?_))
    have k90673 := wOV_e (H := H90658) (m := r0)
    refine wp_of e193 c193_29 (rw_iconst (pc' := 30) rfl ?_)
    refine wp_of e193 c193_30 (rw_icmp_eq (p1 := 41) (p2 := 33) (by decide) rfl ⟨by omega, by omega⟩ ⟨by omega, by omega⟩ (fun c90674 => ?_) (fun c90674 => ?_))
    · exact wp_return e193 c193_41 rfl ⟨rfl, w90662, f90670, rfl, by omega, by omega, by omega, by omega⟩
    · refine wp_of e193 c193_33 (rw_aload_n (pc' := 34) (v := .ref r0) rfl rfl rfl ?_)
      have k90675 : H90658 r0 4 = H90641 r0 4 := (f90663 r0 4 _ g0 rfl)
      have q90676 : H90658 r0 4 = (rp : Int) := k90675.trans q90655
      refine wp_of e193 c193_34 (xg_K (pc' := 37) lf_9_166 w90662 g0 sh_42 (by decide) (by decide) rfl q90676 rfl ?_)
      refine wp_of e193 c193_37 (rw_iload_n (pc' := 38) (z := z90668) rfl rfl ?_)
      refine wp_of e193 c193_38 (xp_I (pc' := 41) lf_9_271 w90662 grp sh_54 (by decide) (by decide) ty_54_8 rfl rfl (by omega) (by omega) ⟨by omega, by omega⟩ rfl (fun H90677 e90678 w90679 => ?_))
      have f90680 := f90670.put' e90678 grp rfl
      have k90681 : H90677 rp 8 = z90668 := wq_u_s e90678
      have k90682 : H90677 r0 9 = H90658 r0 9 := (wq_u_t e90678 grp g0 rfl 9)
      have k90683 : H90677 r0 10 = H90658 r0 10 := (wq_u_t e90678 grp g0 rfl 10)
      have k90684 : wOV H90677 r0 = wOV H90658 r0 := (wOV_fr w90662 g0 ((wfr.rf (l := [(54, 8)])).put' e90678 grp rfl) rfl)
      have k90685 : wJ H90677 r0 = wJ H90658 r0 := (wJ_fr w90662 g0 ((wfr.rf (l := [(54, 8)])).put' e90678 grp rfl) rfl)
      exact wp_return e193 c193_41 rfl ⟨rfl, w90679, f90680, rfl, by omega, by omega, by omega, by omega⟩
/-! StrikeAwakeModel.needsSign(I)V -/
theorem e197 : wq_en 197 = some (9, 2, false, none) := rfl
theorem c197_0 : mc_cd 197 0 = some (.aload_n 0, 1) := by decide +kernel
theorem c197_1 : mc_cd 197 1 = some (.getfield 75, 3) := by decide +kernel
theorem c197_4 : mc_cd 197 4 = some (.iconst 4, 1) := by decide +kernel
theorem c197_5 : mc_cd 197 5 = some (.if_icmp .ne 11, 3) := by decide +kernel
theorem c197_8 : mc_cd 197 8 = some (.aload_n 0, 1) := by decide +kernel
theorem c197_9 : mc_cd 197 9 = some (.getfield 87, 3) := by decide +kernel
theorem c197_12 : mc_cd 197 12 = some (.iload_n 1, 1) := by decide +kernel
theorem c197_13 : mc_cd 197 13 = some (.if_icmp .eq 8, 3) := by decide +kernel
theorem c197_16 : mc_cd 197 16 = some (.aload_n 0, 1) := by decide +kernel
theorem c197_17 : mc_cd 197 17 = some (.iconst 1, 1) := by decide +kernel
theorem c197_18 : mc_cd 197 18 = some (.invokevirtual 121, 3) := by decide +kernel
theorem c197_21 : mc_cd 197 21 = some (.aload_n 0, 1) := by decide +kernel
theorem c197_22 : mc_cd 197 22 = some (.invokevirtual 118, 3) := by decide +kernel
theorem c197_25 : mc_cd 197 25 = some (.return_, 1) := by decide +kernel
abbrev q_197 (r0 : Nat) (a1 : Int) (T : wq_T) (H : wq_H) : Option Value → wq_T → wq_H → Prop := fun r T' H' => T = T' ∧ WT T H' ∧ wfr [(42, 8), (42, 9), (42, 10), (42, 11), (42, 12), (42, 13), (42, 14), (42, 15)] T H H' ∧ none = r ∧ (wJ H' r0 = 1) ∧ (H r0 10 ≤ H' r0 10) ∧ (wOV H r0 ≤ wOV H' r0) ∧ (wOV H' r0 ≤ 1)
set_option maxHeartbeats 4000000 in
theorem s_197 {kt : Nat → Option mc_E} {T : wq_T} {H : wq_H} {r0 : Nat} {a1 : Int} (hW : WT T H) (g0 : T.2.2.2 r0 = some 42) (i1 : (-2147483648) ≤ a1 ∧ a1 ≤ 2147483647) (p0 : wJ H r0 = 1) : wpc kt 3 197 [.ref r0, vI a1] T H (q_197 r0 a1 T H) := by
  refine wp_enter e197 (Nat.le_of_ble_eq_true rfl) rfl ?_
  have f0 : wfr [(42, 8), (42, 9), (42, 10), (42, 11), (42, 12), (42, 13), (42, 14), (42, 15)] T H H := wfr.rf
  show wp _ _ 197 0 [(0, .ref r0), (1, vI a1)] [] _ H _
  have b90768 : (-2147483648) ≤ H r0 10 ∧ H r0 10 ≤ 2147483647 := hW.box g0 (n := 33) rfl (by decide) rfl
  have b90769 : 0 ≤ H r0 9 ∧ H r0 9 ≤ 5 := hW.box g0 (n := 33) rfl (by decide) rfl
  have b90770 : 0 ≤ H r0 8 ∧ H r0 8 ≤ 900 := hW.box g0 (n := 33) rfl (by decide) rfl
  have hb0 := wOV_b (H := H) (m := r0)
  refine wp_of e197 c197_0 (rw_aload_n (pc' := 1) (v := .ref r0) rfl rfl rfl ?_)
  refine wp_of e197 c197_1 (xg_I (pc' := 4) lf_9_75 hW g0 sh_42 (by decide) (by decide) ty_42_9 rfl rfl (fun b90771 b90772 => ?_))
  have k90773 := wOV_e (H := H) (m := r0)
  refine wp_of e197 c197_4 (rw_iconst (pc' := 5) rfl ?_)
  refine wp_of e197 c197_5 (rw_icmp_ne (p1 := 16) (p2 := 8) (by decide) rfl ⟨by omega, by omega⟩ ⟨by omega, by omega⟩ (fun c90774 => ?_) (fun c90774 => ?_))
  · refine wp_of e197 c197_16 (rw_aload_n (pc' := 17) (v := .ref r0) rfl rfl rfl ?_)
    refine wp_of e197 c197_17 (rw_iconst (pc' := 18) rfl ?_)
    refine wp_of e197 c197_18 (xc_V (pc' := 21) (r := r0) (as := [vI 1]) (st := []) (lm_9_121) rfl rfl (Nat.le_of_ble_eq_true rfl) hW g0 sh_42 (by decide) rfl (by decide) (s_181 hW g0 ⟨by omega, by omega⟩ (by omega)) (fun R90775 T90776 H90777 p90778 => ?_))
    obtain ⟨e90779, w90781, f90782, e90780, p90783, p90784, p90785, p90786, p90787, p90788⟩ := p90778
    subst e90779
    subst e90780
    have f90789 := f0.tr f90782 rfl
    show wp _ _ 197 21 [(0, .ref r0), (1, vI a1)] [] _ H90777 _
    refine wp_of e197 c197_21 (rw_aload_n (pc' := 22) (v := .ref r0) rfl rfl rfl ?_)
    refine wp_of e197 c197_22 (xc_V (pc' := 25) (r := r0) (as := []) (st := []) (lm_9_118) rfl rfl (Nat.le_of_ble_eq_true rfl) w90781 g0 sh_42 (by decide) rfl (by decide) (s_172 w90781 g0 (by omega)) (fun R90790 T90791 H90792 p90793 => ?_))
    obtain ⟨e90794, w90796, f90797, e90795, p90798, p90799, p90800, p90801, p90802, p90803⟩ := p90793
    subst e90794
    subst e90795
    have f90804 := f90789.tr f90797 rfl
    show wp _ _ 197 25 [(0, .ref r0), (1, vI a1)] [] _ H90792 _
    exact wp_return e197 c197_25 rfl ⟨rfl, w90796, f90804, rfl, by omega, by omega, by omega, by omega⟩
  · refine wp_of e197 c197_8 (rw_aload_n (pc' := 9) (v := .ref r0) rfl rfl rfl ?_)
    refine wp_of e197 c197_9 (xg_I (pc' := 12) lf_9_87 hW g0 sh_42 (by decide) (by decide) ty_42_11 rfl rfl (fun b90805 b90806 => ?_))
    refine wp_of e197 c197_12 (rw_iload_n (pc' := 13) (z := a1) rfl rfl ?_)
    refine wp_of e197 c197_13 (rw_icmp_eq (p1 := 21) (p2 := 16) (by decide) rfl ⟨by omega, by omega⟩ ⟨by omega, by omega⟩ (fun c90807 => ?_) (fun c90807 => ?_))
    · refine wp_of e197 c197_21 (rw_aload_n (pc' := 22) (v := .ref r0) rfl rfl rfl ?_)
      refine wp_of e197 c197_22 (xc_V (pc' := 25) (r := r0) (as := []) (st := []) (lm_9_118) rfl rfl (Nat.le_of_ble_eq_true rfl) hW g0 sh_42 (by decide) rfl (by decide) (s_172 hW g0 (by omega)) (fun R90808 T90809 H90810 p90811 => ?_))
      obtain ⟨e90812, w90814, f90815, e90813, p90816, p90817, p90818, p90819, p90820, p90821⟩ := p90811
      subst e90812
      subst e90813
      have f90822 := f0.tr f90815 rfl
      show wp _ _ 197 25 [(0, .ref r0), (1, vI a1)] [] _ H90810 _
      exact wp_return e197 c197_25 rfl ⟨rfl, w90814, f90822, rfl, by omega, by omega, by omega, by omega⟩
    · refine wp_of e197 c197_16 (rw_aload_n (pc' := 17) (v := .ref r0) rfl rfl rfl ?_)
      refine wp_of e197 c197_17 (rw_iconst (pc' := 18) rfl ?_)
      refine wp_of e197 c197_18 (xc_V (pc' := 21) (r := r0) (as := [vI 1]) (st := []) (lm_9_121) rfl rfl (Nat.le_of_ble_eq_true rfl) hW g0 sh_42 (by decide) rfl (by decide) (s_181 hW g0 ⟨by omega, by omega⟩ (by omega)) (fun R90823 T90824 H90825 p90826 => ?_))
      obtain ⟨e90827, w90829, f90830, e90828, p90831, p90832, p90833, p90834, p90835, p90836⟩ := p90826
      subst e90827
      subst e90828
      have f90837 := f0.tr f90830 rfl
      show wp _ _ 197 21 [(0, .ref r0), (1, vI a1)] [] _ H90825 _
      refine wp_of e197 c197_21 (rw_aload_n (pc' := 22) (v := .ref r0) rfl rfl rfl ?_)
      refine wp_of e197 c197_22 (xc_V (pc' := 25) (r := r0) (as := []) (st := []) (lm_9_118) rfl rfl (Nat.le_of_ble_eq_true rfl) w90829 g0 sh_42 (by decide) rfl (by decide) (s_172 w90829 g0 (by omega)) (fun R90838 T90839 H90840 p90841 => ?_))
      obtain ⟨e90842, w90844, f90845, e90843, p90846, p90847, p90848, p90849, p90850, p90851⟩ := p90841
      subst e90842
      subst e90843
      have f90852 := f90837.tr f90845 rfl
      show wp _ _ 197 25 [(0, .ref r0), (1, vI a1)] [] _ H90840 _
      exact wp_return e197 c197_25 rfl ⟨rfl, w90844, f90852, rfl, by omega, by omega, by omega, by omega⟩
/-! StrikeAwakeModel.readApart()V -/
theorem e196 : wq_en 196 = some (9, 5, false, none) := rfl
theorem c196_0 : mc_cd 196 0 = some (.aload_n 0, 1) := by decide +kernel
theorem c196_1 : mc_cd 196 1 = some (.aload_n 0, 1) := by decide +kernel
theorem c196_2 : mc_cd 196 2 = some (.getfield 166, 3) := by decide +kernel
theorem c196_5 : mc_cd 196 5 = some (.getfield 276, 3) := by decide +kernel
theorem c196_8 : mc_cd 196 8 = some (.iconst 3, 1) := by decide +kernel
theorem c196_9 : mc_cd 196 9 = some (.invokevirtual 228, 3) := by decide +kernel
theorem c196_12 : mc_cd 196 12 = some (.aload_n 0, 1) := by decide +kernel
theorem c196_13 : mc_cd 196 13 = some (.invokevirtual 273, 3) := by decide +kernel
theorem c196_16 : mc_cd 196 16 = some (.istore_n 1, 1) := by decide +kernel
theorem c196_17 : mc_cd 196 17 = some (.aload_n 0, 1) := by decide +kernel
theorem c196_18 : mc_cd 196 18 = some (.bipush 44, 2) := by decide +kernel
theorem c196_20 : mc_cd 196 20 = some (.invokevirtual 279, 3) := by decide +kernel
theorem c196_23 : mc_cd 196 23 = some (.aload_n 0, 1) := by decide +kernel
theorem c196_24 : mc_cd 196 24 = some (.invokevirtual 176, 3) := by decide +kernel
theorem c196_27 : mc_cd 196 27 = some (.istore_n 2, 1) := by decide +kernel
theorem c196_28 : mc_cd 196 28 = some (.iload_n 1, 1) := by decide +kernel
theorem c196_29 : mc_cd 196 29 = some (.iload_n 2, 1) := by decide +kernel
theorem c196_30 : mc_cd 196 30 = some (.if_icmp .ne 7, 3) := by decide +kernel
theorem c196_33 : mc_cd 196 33 = some (.iconst 1, 1) := by decide +kernel
theorem c196_34 : mc_cd 196 34 = some (.goto 4, 3) := by decide +kernel
theorem c196_37 : mc_cd 196 37 = some (.iconst 0, 1) := by decide +kernel
theorem c196_38 : mc_cd 196 38 = some (.istore_n 3, 1) := by decide +kernel
theorem c196_39 : mc_cd 196 39 = some (.iconst 0, 1) := by decide +kernel
theorem c196_40 : mc_cd 196 40 = some (.istore 4, 2) := by decide +kernel
theorem c196_42 : mc_cd 196 42 = some (.iload 4, 2) := by decide +kernel
theorem c196_44 : mc_cd 196 44 = some (.aload_n 0, 1) := by decide +kernel
theorem c196_45 : mc_cd 196 45 = some (.getfield 166, 3) := by decide +kernel
theorem c196_48 : mc_cd 196 48 = some (.getfield 276, 3) := by decide +kernel
theorem c196_51 : mc_cd 196 51 = some (.if_icmp .ge 75, 3) := by decide +kernel
theorem c196_54 : mc_cd 196 54 = some (.iload_n 3, 1) := by decide +kernel
theorem c196_55 : mc_cd 196 55 = some (.ifCond .ne 59, 3) := by decide +kernel
theorem c196_58 : mc_cd 196 58 = some (.aload_n 0, 1) := by decide +kernel
theorem c196_59 : mc_cd 196 59 = some (.getfield 166, 3) := by decide +kernel
theorem c196_62 : mc_cd 196 62 = some (.getfield 282, 3) := by decide +kernel
theorem c196_65 : mc_cd 196 65 = some (.iload 4, 2) := by decide +kernel
theorem c196_67 : mc_cd 196 67 = some (.iaload, 1) := by decide +kernel
theorem c196_68 : mc_cd 196 68 = some (.iload_n 1, 1) := by decide +kernel
theorem c196_69 : mc_cd 196 69 = some (.if_icmp .ne 17, 3) := by decide +kernel
theorem c196_72 : mc_cd 196 72 = some (.aload_n 0, 1) := by decide +kernel
theorem c196_73 : mc_cd 196 73 = some (.getfield 166, 3) := by decide +kernel
theorem c196_76 : mc_cd 196 76 = some (.getfield 285, 3) := by decide +kernel
theorem c196_79 : mc_cd 196 79 = some (.iload 4, 2) := by decide +kernel
theorem c196_81 : mc_cd 196 81 = some (.iaload, 1) := by decide +kernel
theorem c196_82 : mc_cd 196 82 = some (.iload_n 2, 1) := by decide +kernel
theorem c196_83 : mc_cd 196 83 = some (.if_icmp .eq 31, 3) := by decide +kernel
theorem c196_86 : mc_cd 196 86 = some (.aload_n 0, 1) := by decide +kernel
theorem c196_87 : mc_cd 196 87 = some (.getfield 166, 3) := by decide +kernel
theorem c196_90 : mc_cd 196 90 = some (.getfield 282, 3) := by decide +kernel
theorem c196_93 : mc_cd 196 93 = some (.iload 4, 2) := by decide +kernel
theorem c196_95 : mc_cd 196 95 = some (.iaload, 1) := by decide +kernel
theorem c196_96 : mc_cd 196 96 = some (.iload_n 2, 1) := by decide +kernel
theorem c196_97 : mc_cd 196 97 = some (.if_icmp .ne 21, 3) := by decide +kernel
theorem c196_100 : mc_cd 196 100 = some (.aload_n 0, 1) := by decide +kernel
theorem c196_101 : mc_cd 196 101 = some (.getfield 166, 3) := by decide +kernel
theorem c196_104 : mc_cd 196 104 = some (.getfield 285, 3) := by decide +kernel
theorem c196_107 : mc_cd 196 107 = some (.iload 4, 2) := by decide +kernel
theorem c196_109 : mc_cd 196 109 = some (.iaload, 1) := by decide +kernel
theorem c196_110 : mc_cd 196 110 = some (.iload_n 1, 1) := by decide +kernel
theorem c196_111 : mc_cd 196 111 = some (.if_icmp .ne 7, 3) := by decide +kernel
theorem c196_114 : mc_cd 196 114 = some (.iconst 1, 1) := by decide +kernel
theorem c196_115 : mc_cd 196 115 = some (.goto 4, 3) := by decide +kernel
theorem c196_118 : mc_cd 196 118 = some (.iconst 0, 1) := by decide +kernel
theorem c196_119 : mc_cd 196 119 = some (.istore_n 3, 1) := by decide +kernel
theorem c196_120 : mc_cd 196 120 = some (.iinc 4 1, 3) := by decide +kernel
theorem c196_123 : mc_cd 196 123 = some (.goto (-81), 3) := by decide +kernel
theorem c196_126 : mc_cd 196 126 = some (.iload_n 3, 1) := by decide +kernel
theorem c196_127 : mc_cd 196 127 = some (.ifCond .eq 8, 3) := by decide +kernel
theorem c196_130 : mc_cd 196 130 = some (.aload_n 0, 1) := by decide +kernel
theorem c196_131 : mc_cd 196 131 = some (.iconst 3, 1) := by decide +kernel
theorem c196_132 : mc_cd 196 132 = some (.invokevirtual 121, 3) := by decide +kernel
theorem c196_135 : mc_cd 196 135 = some (.aload_n 0, 1) := by decide +kernel
theorem c196_136 : mc_cd 196 136 = some (.invokevirtual 118, 3) := by decide +kernel
theorem c196_139 : mc_cd 196 139 = some (.aload_n 0, 1) := by decide +kernel
theorem c196_140 : mc_cd 196 140 = some (.getfield 75, 3) := by decide +kernel
theorem c196_143 : mc_cd 196 143 = some (.iconst 5, 1) := by decide +kernel
theorem c196_144 : mc_cd 196 144 = some (.if_icmp .ne 4, 3) := by decide +kernel
theorem c196_147 : mc_cd 196 147 = some (.return_, 1) := by decide +kernel
theorem c196_148 : mc_cd 196 148 = some (.aload_n 0, 1) := by decide +kernel
theorem c196_149 : mc_cd 196 149 = some (.getfield 166, 3) := by decide +kernel
theorem c196_152 : mc_cd 196 152 = some (.getfield 282, 3) := by decide +kernel
theorem c196_155 : mc_cd 196 155 = some (.aload_n 0, 1) := by decide +kernel
theorem c196_156 : mc_cd 196 156 = some (.getfield 166, 3) := by decide +kernel
theorem c196_159 : mc_cd 196 159 = some (.getfield 276, 3) := by decide +kernel
theorem c196_162 : mc_cd 196 162 = some (.iload_n 1, 1) := by decide +kernel
theorem c196_163 : mc_cd 196 163 = some (.iastore, 1) := by decide +kernel
theorem c196_164 : mc_cd 196 164 = some (.aload_n 0, 1) := by decide +kernel
theorem c196_165 : mc_cd 196 165 = some (.getfield 166, 3) := by decide +kernel
theorem c196_168 : mc_cd 196 168 = some (.getfield 285, 3) := by decide +kernel
theorem c196_171 : mc_cd 196 171 = some (.aload_n 0, 1) := by decide +kernel
theorem c196_172 : mc_cd 196 172 = some (.getfield 166, 3) := by decide +kernel
theorem c196_175 : mc_cd 196 175 = some (.getfield 276, 3) := by decide +kernel
theorem c196_178 : mc_cd 196 178 = some (.iload_n 2, 1) := by decide +kernel
theorem c196_179 : mc_cd 196 179 = some (.iastore, 1) := by decide +kernel
theorem c196_180 : mc_cd 196 180 = some (.aload_n 0, 1) := by decide +kernel
theorem c196_181 : mc_cd 196 181 = some (.getfield 166, 3) := by decide +kernel
theorem c196_184 : mc_cd 196 184 = some (.dup, 1) := by decide +kernel
theorem c196_185 : mc_cd 196 185 = some (.getfield 276, 3) := by decide +kernel
theorem c196_188 : mc_cd 196 188 = some (.iconst 1, 1) := by decide +kernel
theorem c196_189 : mc_cd 196 189 = some (.iadd, 1) := by decide +kernel
theorem c196_190 : mc_cd 196 190 = some (.putfield 276, 3) := by decide +kernel
theorem c196_193 : mc_cd 196 193 = some (.return_, 1) := by decide +kernel
abbrev q_196 (r0 : Nat) (rp : Nat) (T : wq_T) (H : wq_H) : Option Value → wq_T → wq_H → Prop := fun r T' H' => T = T' ∧ WT T H' ∧ wfr [(54, 4), (42, 8), (42, 9), (42, 10), (42, 11), (42, 12), (42, 13), (42, 14), (42, 15), (64, 999), (65, 999)] T H H' ∧ none = r ∧ (wJ H' r0 = 1) ∧ (H r0 10 ≤ H' r0 10) ∧ (wOV H r0 ≤ wOV H' r0) ∧ (wOV H' r0 ≤ 1)
set_option maxHeartbeats 4000000 in
theorem s_196 {kt : Nat → Option mc_E} {T : wq_T} {H : wq_H} {r0 : Nat} {rp : Nat} (hW : WT T H) (g0 : T.2.2.2 r0 = some 42) (qrp : H r0 4 = (rp : Int)) (grp : T.2.2.2 rp = some 54) (p0 : wJ H r0 = 1) : wpc kt 6 196 [.ref r0] T H (q_196 r0 rp T H) := by
  refine wp_enter e196 (Nat.le_of_ble_eq_true rfl) rfl ?_
  have f0 : wfr [(54, 4), (42, 8), (42, 9), (42, 10), (42, 11), (42, 12), (42, 13), (42, 14), (42, 15), (64, 999), (65, 999)] T H H := wfr.rf
  show wp _ _ 196 0 [(0, .ref r0)] [] _ H _
  have b91327 : (-2147483648) ≤ H r0 10 ∧ H r0 10 ≤ 2147483647 := hW.box g0 (n := 33) rfl (by decide) rfl
  have b91328 : 0 ≤ H r0 9 ∧ H r0 9 ≤ 5 := hW.box g0 (n := 33) rfl (by decide) rfl
  have b91329 : 0 ≤ H r0 8 ∧ H r0 8 ≤ 900 := hW.box g0 (n := 33) rfl (by decide) rfl
  have hb0 := wOV_b (H := H) (m := r0)
  refine wp_of e196 c196_0 (rw_aload_n (pc' := 1) (v := .ref r0) rfl rfl rfl ?_)
  refine wp_of e196 c196_1 (rw_aload_n (pc' := 2) (v := .ref r0) rfl rfl rfl ?_)
  refine wp_of e196 c196_2 (xg_K (pc' := 5) lf_9_166 hW g0 sh_42 (by decide) (by decide) rfl qrp rfl ?_)
  refine wp_of e196 c196_5 (xg_I (pc' := 8) lf_9_276 hW grp sh_54 (by decide) (by decide) ty_54_4 rfl rfl (fun b91330 b91331 => ?_))
  refine wp_of e196 c196_8 (rw_iconst (pc' := 9) rfl ?_)
  refine wp_of e196 c196_9 (xc_V (pc' := 12) (r := r0) (as := [vI (H rp 4), vI 3]) (st := []) (lm_9_228) rfl rfl (Nat.le_of_ble_eq_true rfl) hW g0 sh_42 (by decide) rfl (by decide) (s_188 hW g0 ⟨by omega, by omega⟩ ⟨by omega, by omega⟩ (by omega)) (fun R91332 T91333 H91334 p91335 => ?_))
  obtain ⟨e91336, w91338, f91339, e91337, p91340, p91341, p91342, p91343, p91344⟩ := p91335
  subst e91336
  subst e91337
  have f91345 := f0.tr f91339 rfl
  show wp _ _ 196 12 [(0, .ref r0)] [] _ H91334 _
  refine wp_of e196 c196_12 (rw_aload_n (pc' := 13) (v := .ref r0) rfl rfl rfl ?_)
  have k91346 : H91334 r0 4 = H r0 4 := (f91339 r0 4 _ g0 rfl)
  have q91347 : H91334 r0 4 = (rp : Int) := k91346.trans qrp
  refine wp_of e196 c196_13 (xc_V (pc' := 16) (r := r0) (as := []) (st := []) (lm_9_273) rfl rfl (Nat.le_of_ble_eq_true rfl) w91338 g0 sh_42 (by decide) rfl (by decide) (s_194 w91338 g0 q91347 grp (by omega)) (fun R91348 T91349 H91350 p91351 => ?_))
  obtain ⟨e91352, w91354, f91355, z91360, e91353, b91361, p91356, p91357, p91358, p91359⟩ := p91351
  subst e91352
  subst e91353
  have f91362 := f91345.tr f91355 rfl
  show wp _ _ 196 16 [(0, .ref r0)] [vI z91360] _ H91350 _
  refine wp_of e196 c196_16 (rw_istore_n (pc' := 17) (z := z91360) (L' := [(1, vI z91360), (0, .ref r0)]) rfl rfl rfl ?_)
  refine wp_of e196 c196_17 (rw_aload_n (pc' := 18) (v := .ref r0) rfl rfl rfl ?_)
  refine wp_of e196 c196_18 (rw_bipush (pc' := 20) (z := 44) rfl (by decide) ?_)
  refine wp_of e196 c196_20 (xc_V (pc' := 23) (r := r0) (as := [vI 44]) (st := []) (lm_9_279) rfl rfl (Nat.le_of_ble_eq_true rfl) w91354 g0 sh_42 (by decide) rfl (by decide) (s_197 w91354 g0 ⟨by omega, by omega⟩ (by omega)) (fun R91363 T91364 H91365 p91366 => ?_))
  obtain ⟨e91367, w91369, f91370, e91368, p91371, p91372, p91373, p91374⟩ := p91366
  subst e91367
  subst e91368
  have f91375 := f91362.tr f91370 rfl
  show wp _ _ 196 23 [(1, vI z91360), (0, .ref r0)] [] _ H91365 _
  refine wp_of e196 c196_23 (rw_aload_n (pc' := 24) (v := .ref r0) rfl rfl rfl ?_)
  have k91376 : H91365 r0 4 = H91334 r0 4 := ((f91370 r0 4 _ g0 rfl).trans (f91355 r0 4 _ g0 rfl))
  have q91377 : H91365 r0 4 = (rp : Int) := k91376.trans q91347
  refine wp_of e196 c196_24 (xc_V (pc' := 27) (r := r0) (as := []) (st := []) (lm_9_176) rfl rfl (Nat.le_of_ble_eq_true rfl) w91369 g0 sh_42 (by decide) rfl (by decide) (s_195 w91369 g0 q91377 grp (by omega)) (fun R91378 T91379 H91380 p91381 => ?_))
  obtain ⟨e91382, w91384, f91385, z91390, e91383, b91391, p91386, p91387, p91388, p91389⟩ := p91381
  subst e91382
  subst e91383
  have f91392 := f91375.tr f91385 rfl
  show wp _ _ 196 27 [(1, vI z91360), (0, .ref r0)] [vI z91390] _ H91380 _
  refine wp_of e196 c196_27 (rw_istore_n (pc' := 28) (z := z91390) (L' := [(2, vI z91390), (1, vI z91360), (0, .ref r0)]) rfl rfl rfl ?_)
  refine wp_of e196 c196_28 (rw_iload_n (pc' := 29) (z := z91360) rfl rfl ?_)
  refine wp_of e196 c196_29 (rw_iload_n (pc' := 30) (z := z91390) rfl rfl ?_)
  refine wp_of e196 c196_30 (rw_icmp_ne (p1 := 37) (p2 := 33) (by decide) rfl ⟨by omega, by omega⟩ ⟨by omega, by omega⟩ (fun c91393 => ?_) (fun c91393 => ?_))
  · refine wp_of e196 c196_37 (rw_iconst (pc' := 38) rfl ?_)
    refine wp_of e196 c196_38 (rw_istore_n (pc' := 39) (z := 0) (L' := [(3, vI 0), (2, vI z91390), (1, vI z91360), (0, .ref r0)]) rfl rfl rfl ?_)
    refine wp_of e196 c196_39 (rw_iconst (pc' := 40) rfl ?_)
    refine wp_of e196 c196_40 (rw_istore (pc' := 42) (z := 0) (L' := [(4, vI 0), (3, vI 0), (2, vI z91390), (1, vI z91360), (0, .ref r0)]) rfl rfl rfl ?_)
    have lp91530 : ∀ (n91531 : Nat) (v91533 : Int) (v91534 : Int), (0 ≤ v91533 ∧ v91533 ≤ 3) → (0 ≤ v91534 ∧ v91534 ≤ 1) → (3 - v91533).toNat = n91531 → wp kt 5 196 42 [(4, vI v91533), (3, vI v91534), (2, vI z91390), (1, vI z91360), (0, .ref r0)] [] T H91380 (q_196 r0 rp T H) := by
      intro n91531
      induction n91531 using Nat.strongRecOn with
      | _ n91531 ih91532 =>
        intro v91533 v91534 b91537 b91538 m91539
        refine wp_of e196 c196_42 (rw_iload (pc' := 44) (z := v91533) rfl rfl ?_)
        refine wp_of e196 c196_44 (rw_aload_n (pc' := 45) (v := .ref r0) rfl rfl rfl ?_)
        have k91540 : H91380 r0 4 = H91365 r0 4 := (f91385 r0 4 _ g0 rfl)
        have q91541 : H91380 r0 4 = (rp : Int) := k91540.trans q91377
        refine wp_of e196 c196_45 (xg_K (pc' := 48) lf_9_166 w91384 g0 sh_42 (by decide) (by decide) rfl q91541 rfl ?_)
        have k91542 : H91380 rp 4 = H rp 4 := ((f91385 rp 4 _ grp rfl).trans ((f91370 rp 4 _ grp rfl).trans ((f91355 rp 4 _ grp rfl).trans (f91339 rp 4 _ grp rfl))))
        refine wp_of e196 c196_48 (xg_I (pc' := 51) lf_9_276 w91384 grp sh_54 (by decide) (by decide) ty_54_4 rfl rfl (fun b91543 b91544 => ?_))
        refine wp_of e196 c196_51 (rw_icmp_ge (p1 := 126) (p2 := 54) (by decide) rfl ⟨by omega, by omega⟩ ⟨by omega, by omega⟩ (fun c91545 => ?_) (fun c91545 => ?_))
        · refine wp_of e196 c196_126 (rw_iload_n (pc' := 127) (z := v91534) rfl rfl ?_)
          refine wp_of e196 c196_127 (rw_if_eq (p1 := 135) (p2 := 130) (by decide) rfl ⟨by omega, by omega⟩ (fun c91546 => ?_) (fun c91546 => ?_))
          · refine wp_of e196 c196_135 (rw_aload_n (pc' := 136) (v := .ref r0) rfl rfl rfl ?_)
            refine wp_of e196 c196_136 (xc_V (pc' := 139) (r := r0) (as := []) (st := []) (lm_9_118) rfl rfl (Nat.le_of_ble_eq_true rfl) w91384 g0 sh_42 (by decide) rfl (by decide) (s_172 w91384 g0 (by omega)) (fun R91547 T91548 H91549 p91550 => ?_))
            obtain ⟨e91551, w91553, f91554, e91552, p91555, p91556, p91557, p91558, p91559, p91560⟩ := p91550
            subst e91551
            subst e91552
            have f91561 := f91392.tr f91554 rfl
            show wp _ _ 196 139 [(4, vI v91533), (3, vI v91534), (2, vI z91390), (1, vI z91360), (0, .ref r0)] [] _ H91549 _
            refine wp_of e196 c196_139 (rw_aload_n (pc' := 140) (v := .ref r0) rfl rfl rfl ?_)
            refine wp_of e196 c196_140 (xg_I (pc' := 143) lf_9_75 w91553 g0 sh_42 (by decide) (by decide) ty_42_9 rfl rfl (fun b91562 b91563 => ?_))
            have k91564 := wOV_e (H := H91549) (m := r0)
            refine wp_of e196 c196_143 (rw_iconst (pc' := 144) rfl ?_)
            refine wp_of e196 c196_144 (rw_icmp_ne (p1 := 148) (p2 := 147) (by decide) rfl ⟨by omega, by omega⟩ ⟨by omega, by omega⟩ (fun c91565 => ?_) (fun c91565 => ?_))
            · refine wp_of e196 c196_148 (rw_aload_n (pc' := 149) (v := .ref r0) rfl rfl rfl ?_)
              have k91566 : H91549 r0 4 = H91380 r0 4 := (f91554 r0 4 _ g0 rfl)
              have q91567 : H91549 r0 4 = (rp : Int) := k91566.trans q91541
              refine wp_of e196 c196_149 (xg_K (pc' := 152) lf_9_166 w91553 g0 sh_42 (by decide) (by decide) rfl q91567 rfl ?_)
              refine wp_of e196 c196_152 (xg_R (pc' := 155) lf_9_282 w91553 grp sh_54 (by decide) (by decide) ty_54_18 rfl rfl (fun r91568 q91569 g91570 => ?_))
              refine wp_of e196 c196_155 (rw_aload_n (pc' := 156) (v := .ref r0) rfl rfl rfl ?_)
              refine wp_of e196 c196_156 (xg_K (pc' := 159) lf_9_166 w91553 g0 sh_42 (by decide) (by decide) rfl q91567 rfl ?_)
              have k91571 : H91549 rp 4 = H91380 rp 4 := (f91554 rp 4 _ grp rfl)
              refine wp_of e196 c196_159 (xg_I (pc' := 162) lf_9_276 w91553 grp sh_54 (by decide) (by decide) ty_54_4 rfl rfl (fun b91572 b91573 => ?_))
              refine wp_of e196 c196_162 (rw_iload_n (pc' := 163) (z := z91360) rfl rfl ?_)
              refine wp_of e196 c196_163 (xs_I (pc' := 164) w91553 g91570 (by decide) sh_64 (by decide) (ty_64 _) (by omega) (by omega) ⟨by omega, by omega⟩ (by omega) (by omega) rfl (fun H91574 e91575 w91576 => ?_))
              have f91577 := f91561.put' e91575 g91570 rfl
              refine wp_of e196 c196_164 (rw_aload_n (pc' := 165) (v := .ref r0) rfl rfl rfl ?_)
              have k91578 : H91574 r0 4 = H91549 r0 4 := (wq_u_t e91575 g91570 g0 rfl 4)
              have q91579 : H91574 r0 4 = (rp : Int) := k91578.trans q91567
              refine wp_of e196 c196_165 (xg_K (pc' := 168) lf_9_166 w91576 g0 sh_42 (by decide) (by decide) rfl q91579 rfl ?_)
              refine wp_of e196 c196_168 (xg_R (pc' := 171) lf_9_285 w91576 grp sh_54 (by decide) (by decide) ty_54_19 rfl rfl (fun r91580 q91581 g91582 => ?_))
              refine wp_of e196 c196_171 (rw_aload_n (pc' := 172) (v := .ref r0) rfl rfl rfl ?_)
              refine wp_of e196 c196_172 (xg_K (pc' := 175) lf_9_166 w91576 g0 sh_42 (by decide) (by decide) rfl q91579 rfl ?_)
              have k91583 : H91574 rp 4 = H91549 rp 4 := (wq_u_t e91575 g91570 grp rfl 4)
              refine wp_of e196 c196_175 (xg_I (pc' := 178) lf_9_276 w91576 grp sh_54 (by decide) (by decide) ty_54_4 rfl rfl (fun b91584 b91585 => ?_))
              refine wp_of e196 c196_178 (rw_iload_n (pc' := 179) (z := z91390) rfl rfl ?_)
              refine wp_of e196 c196_179 (xs_I (pc' := 180) w91576 g91582 (by decide) sh_65 (by decide) (ty_65 _) (by omega) (by omega) ⟨by omega, by omega⟩ (by omega) (by omega) rfl (fun H91586 e91587 w91588 => ?_))
              have f91589 := f91577.put' e91587 g91582 rfl
              refine wp_of e196 c196_180 (rw_aload_n (pc' := 181) (v := .ref r0) rfl rfl rfl ?_)
              have k91590 : H91586 r0 4 = H91574 r0 4 := (wq_u_t e91587 g91582 g0 rfl 4)
              have q91591 : H91586 r0 4 = (rp : Int) := k91590.trans q91579
              refine wp_of e196 c196_181 (xg_K (pc' := 184) lf_9_166 w91588 g0 sh_42 (by decide) (by decide) rfl q91591 rfl ?_)
              refine wp_of e196 c196_184 (rw_dup (pc' := 185) rfl rfl ?_)
              have k91592 : H91586 rp 4 = H91574 rp 4 := (wq_u_t e91587 g91582 grp rfl 4)
              refine wp_of e196 c196_185 (xg_I (pc' := 188) lf_9_276 w91588 grp sh_54 (by decide) (by decide) ty_54_4 rfl rfl (fun b91593 b91594 => ?_))
              refine wp_of e196 c196_188 (rw_iconst (pc' := 189) rfl ?_)
              refine wp_of e196 c196_189 (rw_iadd (pc' := 190) rfl ?_)
              refine wp_of e196 c196_190 (xp_I (pc' := 193) lf_9_276 w91588 grp sh_54 (by decide) (by decide) ty_54_4 rfl rfl (by omega) (by omega) ⟨by omega, by omega⟩ rfl (fun H91595 e91596 w91597 => ?_))
              have f91598 := f91589.put' e91596 grp rfl
              have k91599 : H91595 rp 4 = (H91586 rp 4) + 1 := wq_u_s e91596
              have k91600 : H91595 r0 9 = H91549 r0 9 := ((wq_u_t e91596 grp g0 rfl 9).trans ((wq_u_t e91587 g91582 g0 rfl 9).trans (wq_u_t e91575 g91570 g0 rfl 9)))
              have k91601 : H91595 r0 10 = H91549 r0 10 := ((wq_u_t e91596 grp g0 rfl 10).trans ((wq_u_t e91587 g91582 g0 rfl 10).trans (wq_u_t e91575 g91570 g0 rfl 10)))
              have k91602 : wOV H91595 r0 = wOV H91549 r0 := ((wOV_fr w91588 g0 ((wfr.rf (l := [(54, 4)])).put' e91596 grp rfl) rfl).trans ((wOV_fr w91576 g0 ((wfr.rf (l := [(65, 999)])).put' e91587 g91582 rfl) rfl).trans (wOV_fr w91553 g0 ((wfr.rf (l := [(64, 999)])).put' e91575 g91570 rfl) rfl)))
              have k91603 : wJ H91595 r0 = wJ H91549 r0 := ((wJ_fr w91588 g0 ((wfr.rf (l := [(54, 4)])).put' e91596 grp rfl) rfl).trans ((wJ_fr w91576 g0 ((wfr.rf (l := [(65, 999)])).put' e91587 g91582 rfl) rfl).trans (wJ_fr w91553 g0 ((wfr.rf (l := [(64, 999)])).put' e91575 g91570 rfl) rfl)))
              exact wp_return e196 c196_193 rfl ⟨rfl, w91597, f91598, rfl, by omega, by omega, by omega, by omega⟩
            · exact wp_return e196 c196_147 rfl ⟨rfl, w91553, f91561, rfl, by omega, by omega, by omega, by omega⟩
          · refine wp_of e196 c196_130 (rw_aload_n (pc' := 131) (v := .ref r0) rfl rfl rfl ?_)
            refine wp_of e196 c196_131 (rw_iconst (pc' := 132) rfl ?_)
            refine wp_of e196 c196_132 (xc_V (pc' := 135) (r := r0) (as := [vI 3]) (st := []) (lm_9_121) rfl rfl (Nat.le_of_ble_eq_true rfl) w91384 g0 sh_42 (by decide) rfl (by decide) (s_181 w91384 g0 ⟨by omega, by omega⟩ (by omega)) (fun R91604 T91605 H91606 p91607 => ?_))
            obtain ⟨e91608, w91610, f91611, e91609, p91612, p91613, p91614, p91615, p91616, p91617⟩ := p91607
            subst e91608
            subst e91609
            have f91618 := f91392.tr f91611 rfl
            show wp _ _ 196 135 [(4, vI v91533), (3, vI v91534), (2, vI z91390), (1, vI z91360), (0, .ref r0)] [] _ H91606 _
            refine wp_of e196 c196_135 (rw_aload_n (pc' := 136) (v := .ref r0) rfl rfl rfl ?_)
            refine wp_of e196 c196_136 (xc_V (pc' := 139) (r := r0) (as := []) (st := []) (lm_9_118) rfl rfl (Nat.le_of_ble_eq_true rfl) w91610 g0 sh_42 (by decide) rfl (by decide) (s_172 w91610 g0 (by omega)) (fun R91619 T91620 H91621 p91622 => ?_))
            obtain ⟨e91623, w91625, f91626, e91624, p91627, p91628, p91629, p91630, p91631, p91632⟩ := p91622
            subst e91623
            subst e91624
            have f91633 := f91618.tr f91626 rfl
            show wp _ _ 196 139 [(4, vI v91533), (3, vI v91534), (2, vI z91390), (1, vI z91360), (0, .ref r0)] [] _ H91621 _
            refine wp_of e196 c196_139 (rw_aload_n (pc' := 140) (v := .ref r0) rfl rfl rfl ?_)
            refine wp_of e196 c196_140 (xg_I (pc' := 143) lf_9_75 w91625 g0 sh_42 (by decide) (by decide) ty_42_9 rfl rfl (fun b91634 b91635 => ?_))
            have k91636 := wOV_e (H := H91621) (m := r0)
            refine wp_of e196 c196_143 (rw_iconst (pc' := 144) rfl ?_)
            refine wp_of e196 c196_144 (rw_icmp_ne (p1 := 148) (p2 := 147) (by decide) rfl ⟨by omega, by omega⟩ ⟨by omega, by omega⟩ (fun c91637 => ?_) (fun c91637 => ?_))
            · refine wp_of e196 c196_148 (rw_aload_n (pc' := 149) (v := .ref r0) rfl rfl rfl ?_)
              have k91638 : H91621 r0 4 = H91380 r0 4 := ((f91626 r0 4 _ g0 rfl).trans (f91611 r0 4 _ g0 rfl))
              have q91639 : H91621 r0 4 = (rp : Int) := k91638.trans q91541
              refine wp_of e196 c196_149 (xg_K (pc' := 152) lf_9_166 w91625 g0 sh_42 (by decide) (by decide) rfl q91639 rfl ?_)
              refine wp_of e196 c196_152 (xg_R (pc' := 155) lf_9_282 w91625 grp sh_54 (by decide) (by decide) ty_54_18 rfl rfl (fun r91640 q91641 g91642 => ?_))
              refine wp_of e196 c196_155 (rw_aload_n (pc' := 156) (v := .ref r0) rfl rfl rfl ?_)
              refine wp_of e196 c196_156 (xg_K (pc' := 159) lf_9_166 w91625 g0 sh_42 (by decide) (by decide) rfl q91639 rfl ?_)
              have k91643 : H91621 rp 4 = H91380 rp 4 := ((f91626 rp 4 _ grp rfl).trans (f91611 rp 4 _ grp rfl))
              refine wp_of e196 c196_159 (xg_I (pc' := 162) lf_9_276 w91625 grp sh_54 (by decide) (by decide) ty_54_4 rfl rfl (fun b91644 b91645 => ?_))
              refine wp_of e196 c196_162 (rw_iload_n (pc' := 163) (z := z91360) rfl rfl ?_)
              refine wp_of e196 c196_163 (xs_I (pc' := 164) w91625 g91642 (by decide) sh_64 (by decide) (ty_64 _) (by omega) (by omega) ⟨by omega, by omega⟩ (by omega) (by omega) rfl (fun H91646 e91647 w91648 => ?_))
              have f91649 := f91633.put' e91647 g91642 rfl
              refine wp_of e196 c196_164 (rw_aload_n (pc' := 165) (v := .ref r0) rfl rfl rfl ?_)
              have k91650 : H91646 r0 4 = H91621 r0 4 := (wq_u_t e91647 g91642 g0 rfl 4)
              have q91651 : H91646 r0 4 = (rp : Int) := k91650.trans q91639
              refine wp_of e196 c196_165 (xg_K (pc' := 168) lf_9_166 w91648 g0 sh_42 (by decide) (by decide) rfl q91651 rfl ?_)
              refine wp_of e196 c196_168 (xg_R (pc' := 171) lf_9_285 w91648 grp sh_54 (by decide) (by decide) ty_54_19 rfl rfl (fun r91652 q91653 g91654 => ?_))
              refine wp_of e196 c196_171 (rw_aload_n (pc' := 172) (v := .ref r0) rfl rfl rfl ?_)
              refine wp_of e196 c196_172 (xg_K (pc' := 175) lf_9_166 w91648 g0 sh_42 (by decide) (by decide) rfl q91651 rfl ?_)
              have k91655 : H91646 rp 4 = H91621 rp 4 := (wq_u_t e91647 g91642 grp rfl 4)
              refine wp_of e196 c196_175 (xg_I (pc' := 178) lf_9_276 w91648 grp sh_54 (by decide) (by decide) ty_54_4 rfl rfl (fun b91656 b91657 => ?_))
              refine wp_of e196 c196_178 (rw_iload_n (pc' := 179) (z := z91390) rfl rfl ?_)
              refine wp_of e196 c196_179 (xs_I (pc' := 180) w91648 g91654 (by decide) sh_65 (by decide) (ty_65 _) (by omega) (by omega) ⟨by omega, by omega⟩ (by omega) (by omega) rfl (fun H91658 e91659 w91660 => ?_))
              have f91661 := f91649.put' e91659 g91654 rfl
              refine wp_of e196 c196_180 (rw_aload_n (pc' := 181) (v := .ref r0) rfl rfl rfl ?_)
              have k91662 : H91658 r0 4 = H91646 r0 4 := (wq_u_t e91659 g91654 g0 rfl 4)
              have q91663 : H91658 r0 4 = (rp : Int) := k91662.trans q91651
              refine wp_of e196 c196_181 (xg_K (pc' := 184) lf_9_166 w91660 g0 sh_42 (by decide) (by decide) rfl q91663 rfl ?_)
              refine wp_of e196 c196_184 (rw_dup (pc' := 185) rfl rfl ?_)
              have k91664 : H91658 rp 4 = H91646 rp 4 := (wq_u_t e91659 g91654 grp rfl 4)
              refine wp_of e196 c196_185 (xg_I (pc' := 188) lf_9_276 w91660 grp sh_54 (by decide) (by decide) ty_54_4 rfl rfl (fun b91665 b91666 => ?_))
              refine wp_of e196 c196_188 (rw_iconst (pc' := 189) rfl ?_)
              refine wp_of e196 c196_189 (rw_iadd (pc' := 190) rfl ?_)
              refine wp_of e196 c196_190 (xp_I (pc' := 193) lf_9_276 w91660 grp sh_54 (by decide) (by decide) ty_54_4 rfl rfl (by omega) (by omega) ⟨by omega, by omega⟩ rfl (fun H91667 e91668 w91669 => ?_))
              have f91670 := f91661.put' e91668 grp rfl
              have k91671 : H91667 rp 4 = (H91658 rp 4) + 1 := wq_u_s e91668
              have k91672 : H91667 r0 9 = H91621 r0 9 := ((wq_u_t e91668 grp g0 rfl 9).trans ((wq_u_t e91659 g91654 g0 rfl 9).trans (wq_u_t e91647 g91642 g0 rfl 9)))
              have k91673 : H91667 r0 10 = H91621 r0 10 := ((wq_u_t e91668 grp g0 rfl 10).trans ((wq_u_t e91659 g91654 g0 rfl 10).trans (wq_u_t e91647 g91642 g0 rfl 10)))
              have k91674 : wOV H91667 r0 = wOV H91621 r0 := ((wOV_fr w91660 g0 ((wfr.rf (l := [(54, 4)])).put' e91668 grp rfl) rfl).trans ((wOV_fr w91648 g0 ((wfr.rf (l := [(65, 999)])).put' e91659 g91654 rfl) rfl).trans (wOV_fr w91625 g0 ((wfr.rf (l := [(64, 999)])).put' e91647 g91642 rfl) rfl)))
              have k91675 : wJ H91667 r0 = wJ H91621 r0 := ((wJ_fr w91660 g0 ((wfr.rf (l := [(54, 4)])).put' e91668 grp rfl) rfl).trans ((wJ_fr w91648 g0 ((wfr.rf (l := [(65, 999)])).put' e91659 g91654 rfl) rfl).trans (wJ_fr w91625 g0 ((wfr.rf (l := [(64, 999)])).put' e91647 g91642 rfl) rfl)))
              exact wp_return e196 c196_193 rfl ⟨rfl, w91669, f91670, rfl, by omega, by omega, by omega, by omega⟩
            · exact wp_return e196 c196_147 rfl ⟨rfl, w91625, f91633, rfl, by omega, by omega, by omega, by omega⟩
        · refine wp_of e196 c196_54 (rw_iload_n (pc' := 55) (z := v91534) rfl rfl ?_)
          refine wp_of e196 c196_55 (rw_if_ne (p1 := 114) (p2 := 58) (by decide) rfl ⟨by omega, by omega⟩ (fun c91676 => ?_) (fun c91676 => ?_))
          · refine wp_of e196 c196_114 (rw_iconst (pc' := 115) rfl ?_)
            refine wp_of e196 c196_115 (rw_goto (p1 := 119) (by decide) ?_)
            refine wp_of e196 c196_119 (rw_istore_n (pc' := 120) (z := 1) (L' := [(3, vI 1), (4, vI v91533), (2, vI z91390), (1, vI z91360), (0, .ref r0)]) rfl rfl rfl ?_)
            refine wp_of e196 c196_120 (rw_iinc (pc' := 123) (z := v91533) (L' := [(4, vI (v91533 + 1)), (3, vI 1), (2, vI z91390), (1, vI z91360), (0, .ref r0)]) rfl rfl rfl rfl ?_)
            refine wp_of e196 c196_123 (rw_goto (p1 := 42) (by decide) ?_)
            exact wp_lc (ks := [4, 3, 2, 1, 0]) (wl_c rfl (wl_c rfl (wl_c rfl (wl_c rfl (wl_c rfl wl_n))))) rfl (by decide) (ih91532 _ (by omega) (v91533 + 1) 1 ⟨by omega, by omega⟩ ⟨by omega, by omega⟩ rfl)
          · refine wp_of e196 c196_58 (rw_aload_n (pc' := 59) (v := .ref r0) rfl rfl rfl ?_)
            refine wp_of e196 c196_59 (xg_K (pc' := 62) lf_9_166 w91384 g0 sh_42 (by decide) (by decide) rfl q91541 rfl ?_)
            refine wp_of e196 c196_62 (xg_R (pc' := 65) lf_9_282 w91384 grp sh_54 (by decide) (by decide) ty_54_18 rfl rfl (fun r91677 q91678 g91679 => ?_))
            refine wp_of e196 c196_65 (rw_iload (pc' := 67) (z := v91533) rfl rfl ?_)
            refine wp_of e196 c196_67 (xa_I (so := 0) (pc' := 68) w91384 g91679 sh_64 (by decide) (ty_64 _) (by omega) (by omega) rfl (fun b91680 b91681 => ?_))
            refine wp_of e196 c196_68 (rw_iload_n (pc' := 69) (z := z91360) rfl rfl ?_)
            refine wp_of e196 c196_69 (rw_icmp_ne (p1 := 86) (p2 := 72) (by decide) rfl ⟨by omega, by omega⟩ ⟨by omega, by omega⟩ (fun c91682 => ?_) (fun c91682 => ?_))
            · refine wp_of e196 c196_86 (rw_aload_n (pc' := 87) (v := .ref r0) rfl rfl rfl ?_)
              refine wp_of e196 c196_87 (xg_K (pc' := 90) lf_9_166 w91384 g0 sh_42 (by decide) (by decide) rfl q91541 rfl ?_)
              refine wp_of e196 c196_90 (xg_K (pc' := 93) lf_9_282 w91384 grp sh_54 (by decide) (by decide) rfl q91678 rfl ?_)
              refine wp_of e196 c196_93 (rw_iload (pc' := 95) (z := v91533) rfl rfl ?_)
              refine wp_of e196 c196_95 (xa_I (so := 0) (pc' := 96) w91384 g91679 sh_64 (by decide) (ty_64 _) (by omega) (by omega) rfl (fun b91683 b91684 => ?_))
              refine wp_of e196 c196_96 (rw_iload_n (pc' := 97) (z := z91390) rfl rfl ?_)
              refine wp_of e196 c196_97 (rw_icmp_ne (p1 := 118) (p2 := 100) (by decide) rfl ⟨by omega, by omega⟩ ⟨by omega, by omega⟩ (fun c91685 => ?_) (fun c91685 => ?_))
              · refine wp_of e196 c196_118 (rw_iconst (pc' := 119) rfl ?_)
                refine wp_of e196 c196_119 (rw_istore_n (pc' := 120) (z := 0) (L' := [(3, vI 0), (4, vI v91533), (2, vI z91390), (1, vI z91360), (0, .ref r0)]) rfl rfl rfl ?_)
                refine wp_of e196 c196_120 (rw_iinc (pc' := 123) (z := v91533) (L' := [(4, vI (v91533 + 1)), (3, vI 0), (2, vI z91390), (1, vI z91360), (0, .ref r0)]) rfl rfl rfl rfl ?_)
                refine wp_of e196 c196_123 (rw_goto (p1 := 42) (by decide) ?_)
                exact wp_lc (ks := [4, 3, 2, 1, 0]) (wl_c rfl (wl_c rfl (wl_c rfl (wl_c rfl (wl_c rfl wl_n))))) rfl (by decide) (ih91532 _ (by omega) (v91533 + 1) 0 ⟨by omega, by omega⟩ ⟨by omega, by omega⟩ rfl)
              · refine wp_of e196 c196_100 (rw_aload_n (pc' := 101) (v := .ref r0) rfl rfl rfl ?_)
                refine wp_of e196 c196_101 (xg_K (pc' := 104) lf_9_166 w91384 g0 sh_42 (by decide) (by decide) rfl q91541 rfl ?_)
                refine wp_of e196 c196_104 (xg_R (pc' := 107) lf_9_285 w91384 grp sh_54 (by decide) (by decide) ty_54_19 rfl rfl (fun r91686 q91687 g91688 => ?_))
                refine wp_of e196 c196_107 (rw_iload (pc' := 109) (z := v91533) rfl rfl ?_)
                refine wp_of e196 c196_109 (xa_I (so := 0) (pc' := 110) w91384 g91688 sh_65 (by decide) (ty_65 _) (by omega) (by omega) rfl (fun b91689 b91690 => ?_))
                refine wp_of e196 c196_110 (rw_iload_n (pc' := 111) (z := z91360) rfl rfl ?_)
                refine wp_of e196 c196_111 (rw_icmp_ne (p1 := 118) (p2 := 114) (by decide) rfl ⟨by omega, by omega⟩ ⟨by omega, by omega⟩ (fun c91691 => ?_) (fun c91691 => ?_))
                · refine wp_of e196 c196_118 (rw_iconst (pc' := 119) rfl ?_)
                  refine wp_of e196 c196_119 (rw_istore_n (pc' := 120) (z := 0) (L' := [(3, vI 0), (4, vI v91533), (2, vI z91390), (1, vI z91360), (0, .ref r0)]) rfl rfl rfl ?_)
                  refine wp_of e196 c196_120 (rw_iinc (pc' := 123) (z := v91533) (L' := [(4, vI (v91533 + 1)), (3, vI 0), (2, vI z91390), (1, vI z91360), (0, .ref r0)]) rfl rfl rfl rfl ?_)
                  refine wp_of e196 c196_123 (rw_goto (p1 := 42) (by decide) ?_)
                  exact wp_lc (ks := [4, 3, 2, 1, 0]) (wl_c rfl (wl_c rfl (wl_c rfl (wl_c rfl (wl_c rfl wl_n))))) rfl (by decide) (ih91532 _ (by omega) (v91533 + 1) 0 ⟨by omega, by omega⟩ ⟨by omega, by omega⟩ rfl)
                · refine wp_of e196 c196_114 (rw_iconst (pc' := 115) rfl ?_)
                  refine wp_of e196 c196_115 (rw_goto (p1 := 119) (by decide) ?_)
                  refine wp_of e196 c196_119 (rw_istore_n (pc' := 120) (z := 1) (L' := [(3, vI 1), (4, vI v91533), (2, vI z91390), (1, vI z91360), (0, .ref r0)]) rfl rfl rfl ?_)
                  refine wp_of e196 c196_120 (rw_iinc (pc' := 123) (z := v91533) (L' := [(4, vI (v91533 + 1)), (3, vI 1), (2, vI z91390), (1, vI z91360), (0, .ref r0)]) rfl rfl rfl rfl ?_)
                  refine wp_of e196 c196_123 (rw_goto (p1 := 42) (by decide) ?_)
                  exact wp_lc (ks := [4, 3, 2, 1, 0]) (wl_c rfl (wl_c rfl (wl_c rfl (wl_c rfl (wl_c rfl wl_n))))) rfl (by decide) (ih91532 _ (by omega) (v91533 + 1) 1 ⟨by omega, by omega⟩ ⟨by omega, by omega⟩ rfl)
            · refine wp_of e196 c196_72 (rw_aload_n (pc' := 73) (v := .ref r0) rfl rfl rfl ?_)
              refine wp_of e196 c196_73 (xg_K (pc' := 76) lf_9_166 w91384 g0 sh_42 (by decide) (by decide) rfl q91541 rfl ?_)
              refine wp_of e196 c196_76 (xg_R (pc' := 79) lf_9_285 w91384 grp sh_54 (by decide) (by decide) ty_54_19 rfl rfl (fun r91692 q91693 g91694 => ?_))
              refine wp_of e196 c196_79 (rw_iload (pc' := 81) (z := v91533) rfl rfl ?_)
              refine wp_of e196 c196_81 (xa_I (so := 0) (pc' := 82) w91384 g91694 sh_65 (by decide) (ty_65 _) (by omega) (by omega) rfl (fun b91695 b91696 => ?_))
              refine wp_of e196 c196_82 (rw_iload_n (pc' := 83) (z := z91390) rfl rfl ?_)
              refine wp_of e196 c196_83 (rw_icmp_eq (p1 := 114) (p2 := 86) (by decide) rfl ⟨by omega, by omega⟩ ⟨by omega, by omega⟩ (fun c91697 => ?_) (fun c91697 => ?_))
              · refine wp_of e196 c196_114 (rw_iconst (pc' := 115) rfl ?_)
                refine wp_of e196 c196_115 (rw_goto (p1 := 119) (by decide) ?_)
                refine wp_of e196 c196_119 (rw_istore_n (pc' := 120) (z := 1) (L' := [(3, vI 1), (4, vI v91533), (2, vI z91390), (1, vI z91360), (0, .ref r0)]) rfl rfl rfl ?_)
                refine wp_of e196 c196_120 (rw_iinc (pc' := 123) (z := v91533) (L' := [(4, vI (v91533 + 1)), (3, vI 1), (2, vI z91390), (1, vI z91360), (0, .ref r0)]) rfl rfl rfl rfl ?_)
                refine wp_of e196 c196_123 (rw_goto (p1 := 42) (by decide) ?_)
                exact wp_lc (ks := [4, 3, 2, 1, 0]) (wl_c rfl (wl_c rfl (wl_c rfl (wl_c rfl (wl_c rfl wl_n))))) rfl (by decide) (ih91532 _ (by omega) (v91533 + 1) 1 ⟨by omega, by omega⟩ ⟨by omega, by omega⟩ rfl)
              · refine wp_of e196 c196_86 (rw_aload_n (pc' := 87) (v := .ref r0) rfl rfl rfl ?_)
                refine wp_of e196 c196_87 (xg_K (pc' := 90) lf_9_166 w91384 g0 sh_42 (by decide) (by decide) rfl q91541 rfl ?_)
                refine wp_of e196 c196_90 (xg_K (pc' := 93) lf_9_282 w91384 grp sh_54 (by decide) (by decide) rfl q91678 rfl ?_)
                refine wp_of e196 c196_93 (rw_iload (pc' := 95) (z := v91533) rfl rfl ?_)
                refine wp_of e196 c196_95 (xa_I (so := 0) (pc' := 96) w91384 g91679 sh_64 (by decide) (ty_64 _) (by omega) (by omega) rfl (fun b91698 b91699 => ?_))
                refine wp_of e196 c196_96 (rw_iload_n (pc' := 97) (z := z91390) rfl rfl ?_)
                refine wp_of e196 c196_97 (rw_icmp_ne (p1 := 118) (p2 := 100) (by decide) rfl ⟨by omega, by omega⟩ ⟨by omega, by omega⟩ (fun c91700 => ?_) (fun c91700 => ?_))
                · refine wp_of e196 c196_118 (rw_iconst (pc' := 119) rfl ?_)
                  refine wp_of e196 c196_119 (rw_istore_n (pc' := 120) (z := 0) (L' := [(3, vI 0), (4, vI v91533), (2, vI z91390), (1, vI z91360), (0, .ref r0)]) rfl rfl rfl ?_)
                  refine wp_of e196 c196_120 (rw_iinc (pc' := 123) (z := v91533) (L' := [(4, vI (v91533 + 1)), (3, vI 0), (2, vI z91390), (1, vI z91360), (0, .ref r0)]) rfl rfl rfl rfl ?_)
                  refine wp_of e196 c196_123 (rw_goto (p1 := 42) (by decide) ?_)
                  exact wp_lc (ks := [4, 3, 2, 1, 0]) (wl_c rfl (wl_c rfl (wl_c rfl (wl_c rfl (wl_c rfl wl_n))))) rfl (by decide) (ih91532 _ (by omega) (v91533 + 1) 0 ⟨by omega, by omega⟩ ⟨by omega, by omega⟩ rfl)
                · refine wp_of e196 c196_100 (rw_aload_n (pc' := 101) (v := .ref r0) rfl rfl rfl ?_)
                  refine wp_of e196 c196_101 (xg_K (pc' := 104) lf_9_166 w91384 g0 sh_42 (by decide) (by decide) rfl q91541 rfl ?_)
                  refine wp_of e196 c196_104 (xg_K (pc' := 107) lf_9_285 w91384 grp sh_54 (by decide) (by decide) rfl q91693 rfl ?_)
                  refine wp_of e196 c196_107 (rw_iload (pc' := 109) (z := v91533) rfl rfl ?_)
                  refine wp_of e196 c196_109 (xa_I (so := 0) (pc' := 110) w91384 g91694 sh_65 (by decide) (ty_65 _) (by omega) (by omega) rfl (fun b91701 b91702 => ?_))
                  refine wp_of e196 c196_110 (rw_iload_n (pc' := 111) (z := z91360) rfl rfl ?_)
                  refine wp_of e196 c196_111 (rw_icmp_ne (p1 := 118) (p2 := 114) (by decide) rfl ⟨by omega, by omega⟩ ⟨by omega, by omega⟩ (fun c91703 => ?_) (fun c91703 => ?_))
                  · refine wp_of e196 c196_118 (rw_iconst (pc' := 119) rfl ?_)
                    refine wp_of e196 c196_119 (rw_istore_n (pc' := 120) (z := 0) (L' := [(3, vI 0), (4, vI v91533), (2, vI z91390), (1, vI z91360), (0, .ref r0)]) rfl rfl rfl ?_)
                    refine wp_of e196 c196_120 (rw_iinc (pc' := 123) (z := v91533) (L' := [(4, vI (v91533 + 1)), (3, vI 0), (2, vI z91390), (1, vI z91360), (0, .ref r0)]) rfl rfl rfl rfl ?_)
                    refine wp_of e196 c196_123 (rw_goto (p1 := 42) (by decide) ?_)
                    exact wp_lc (ks := [4, 3, 2, 1, 0]) (wl_c rfl (wl_c rfl (wl_c rfl (wl_c rfl (wl_c rfl wl_n))))) rfl (by decide) (ih91532 _ (by omega) (v91533 + 1) 0 ⟨by omega, by omega⟩ ⟨by omega, by omega⟩ rfl)
                  · refine wp_of e196 c196_114 (rw_iconst (pc' := 115) rfl ?_)
                    refine wp_of e196 c196_115 (rw_goto (p1 := 119) (by decide) ?_)
                    refine wp_of e196 c196_119 (rw_istore_n (pc' := 120) (z := 1) (L' := [(3, vI 1), (4, vI v91533), (2, vI z91390), (1, vI z91360), (0, .ref r0)]) rfl rfl rfl ?_)
                    refine wp_of e196 c196_120 (rw_iinc (pc' := 123) (z := v91533) (L' := [(4, vI (v91533 + 1)), (3, vI 1), (2, vI z91390), (1, vI z91360), (0, .ref r0)]) rfl rfl rfl rfl ?_)
                    refine wp_of e196 c196_123 (rw_goto (p1 := 42) (by decide) ?_)
                    exact wp_lc (ks := [4, 3, 2, 1, 0]) (wl_c rfl (wl_c rfl (wl_c rfl (wl_c rfl (wl_c rfl wl_n))))) rfl (by decide) (ih91532 _ (by omega) (v91533 + 1) 1 ⟨by omega, by omega⟩ ⟨by omega, by omega⟩ rfl)
    exact wp_lc (ks := [4, 3, 2, 1, 0]) (wl_c rfl (wl_c rfl (wl_c rfl (wl_c rfl (wl_c rfl wl_n))))) rfl (by decide) (lp91530 _ 0 0 ⟨by omega, by omega⟩ ⟨by omega, by omega⟩ rfl)
  · refine wp_of e196 c196_33 (rw_iconst (pc' := 34) rfl ?_)
    refine wp_of e196 c196_34 (rw_goto (p1 := 38) (by decide) ?_)
    refine wp_of e196 c196_38 (rw_istore_n (pc' := 39) (z := 1) (L' := [(3, vI 1), (2, vI z91390), (1, vI z91360), (0, .ref r0)]) rfl rfl rfl ?_)
    refine wp_of e196 c196_39 (rw_iconst (pc' := 40) rfl ?_)
    refine wp_of e196 c196_40 (rw_istore (pc' := 42) (z := 0) (L' := [(4, vI 0), (3, vI 1), (2, vI z91390), (1, vI z91360), (0, .ref r0)]) rfl rfl rfl ?_)
    have lp91732 : ∀ (n91733 : Nat) (v91735 : Int) (v91736 : Int), (0 ≤ v91735 ∧ v91735 ≤ 3) → (1 ≤ v91736 ∧ v91736 ≤ 1) → (3 - v91735).toNat = n91733 → wp kt 5 196 42 [(4, vI v91735), (3, vI v91736), (2, vI z91390), (1, vI z91360), (0, .ref r0)] [] T H91380 (q_196 r0 rp T H) := by
      intro n91733
      induction n91733 using Nat.strongRecOn with
      | _ n91733 ih91734 =>
        intro v91735 v91736 b91739 b91740 m91741
        refine wp_of e196 c196_42 (rw_iload (pc' := 44) (z := v91735) rfl rfl ?_)
        refine wp_of e196 c196_44 (rw_aload_n (pc' := 45) (v := .ref r0) rfl rfl rfl ?_)
        have k91742 : H91380 r0 4 = H91365 r0 4 := (f91385 r0 4 _ g0 rfl)
        have q91743 : H91380 r0 4 = (rp : Int) := k91742.trans q91377
        refine wp_of e196 c196_45 (xg_K (pc' := 48) lf_9_166 w91384 g0 sh_42 (by decide) (by decide) rfl q91743 rfl ?_)
        have k91744 : H91380 rp 4 = H rp 4 := ((f91385 rp 4 _ grp rfl).trans ((f91370 rp 4 _ grp rfl).trans ((f91355 rp 4 _ grp rfl).trans (f91339 rp 4 _ grp rfl))))
        refine wp_of e196 c196_48 (xg_I (pc' := 51) lf_9_276 w91384 grp sh_54 (by decide) (by decide) ty_54_4 rfl rfl (fun b91745 b91746 => ?_))
        refine wp_of e196 c196_51 (rw_icmp_ge (p1 := 126) (p2 := 54) (by decide) rfl ⟨by omega, by omega⟩ ⟨by omega, by omega⟩ (fun c91747 => ?_) (fun c91747 => ?_))
        · refine wp_of e196 c196_126 (rw_iload_n (pc' := 127) (z := v91736) rfl rfl ?_)
          refine wp_of e196 c196_127 (rw_if_eq (p1 := 135) (p2 := 130) (by decide) rfl ⟨by omega, by omega⟩ (fun c91748 => ?_) (fun c91748 => ?_))
          · exfalso
            omega
          · refine wp_of e196 c196_130 (rw_aload_n (pc' := 131) (v := .ref r0) rfl rfl rfl ?_)
            refine wp_of e196 c196_131 (rw_iconst (pc' := 132) rfl ?_)
            refine wp_of e196 c196_132 (xc_V (pc' := 135) (r := r0) (as := [vI 3]) (st := []) (lm_9_121) rfl rfl (Nat.le_of_ble_eq_true rfl) w91384 g0 sh_42 (by decide) rfl (by decide) (s_181 w91384 g0 ⟨by omega, by omega⟩ (by omega)) (fun R91749 T91750 H91751 p91752 => ?_))
            obtain ⟨e91753, w91755, f91756, e91754, p91757, p91758, p91759, p91760, p91761, p91762⟩ := p91752
            subst e91753
            subst e91754
            have f91763 := f91392.tr f91756 rfl
            show wp _ _ 196 135 [(4, vI v91735), (3, vI v91736), (2, vI z91390), (1, vI z91360), (0, .ref r0)] [] _ H91751 _
            refine wp_of e196 c196_135 (rw_aload_n (pc' := 136) (v := .ref r0) rfl rfl rfl ?_)
            refine wp_of e196 c196_136 (xc_V (pc' := 139) (r := r0) (as := []) (st := []) (lm_9_118) rfl rfl (Nat.le_of_ble_eq_true rfl) w91755 g0 sh_42 (by decide) rfl (by decide) (s_172 w91755 g0 (by omega)) (fun R91764 T91765 H91766 p91767 => ?_))
            obtain ⟨e91768, w91770, f91771, e91769, p91772, p91773, p91774, p91775, p91776, p91777⟩ := p91767
            subst e91768
            subst e91769
            have f91778 := f91763.tr f91771 rfl
            show wp _ _ 196 139 [(4, vI v91735), (3, vI v91736), (2, vI z91390), (1, vI z91360), (0, .ref r0)] [] _ H91766 _
            refine wp_of e196 c196_139 (rw_aload_n (pc' := 140) (v := .ref r0) rfl rfl rfl ?_)
            refine wp_of e196 c196_140 (xg_I (pc' := 143) lf_9_75 w91770 g0 sh_42 (by decide) (by decide) ty_42_9 rfl rfl (fun b91779 b91780 => ?_))
            have k91781 := wOV_e (H := H91766) (m := r0)
            refine wp_of e196 c196_143 (rw_iconst (pc' := 144) rfl ?_)
            refine wp_of e196 c196_144 (rw_icmp_ne (p1 := 148) (p2 := 147) (by decide) rfl ⟨by omega, by omega⟩ ⟨by omega, by omega⟩ (fun c91782 => ?_) (fun c91782 => ?_))
            · refine wp_of e196 c196_148 (rw_aload_n (pc' := 149) (v := .ref r0) rfl rfl rfl ?_)
              have k91783 : H91766 r0 4 = H91380 r0 4 := ((f91771 r0 4 _ g0 rfl).trans (f91756 r0 4 _ g0 rfl))
              have q91784 : H91766 r0 4 = (rp : Int) := k91783.trans q91743
              refine wp_of e196 c196_149 (xg_K (pc' := 152) lf_9_166 w91770 g0 sh_42 (by decide) (by decide) rfl q91784 rfl ?_)
              refine wp_of e196 c196_152 (xg_R (pc' := 155) lf_9_282 w91770 grp sh_54 (by decide) (by decide) ty_54_18 rfl rfl (fun r91785 q91786 g91787 => ?_))
              refine wp_of e196 c196_155 (rw_aload_n (pc' := 156) (v := .ref r0) rfl rfl rfl ?_)
              refine wp_of e196 c196_156 (xg_K (pc' := 159) lf_9_166 w91770 g0 sh_42 (by decide) (by decide) rfl q91784 rfl ?_)
              have k91788 : H91766 rp 4 = H91380 rp 4 := ((f91771 rp 4 _ grp rfl).trans (f91756 rp 4 _ grp rfl))
              refine wp_of e196 c196_159 (xg_I (pc' := 162) lf_9_276 w91770 grp sh_54 (by decide) (by decide) ty_54_4 rfl rfl (fun b91789 b91790 => ?_))
              refine wp_of e196 c196_162 (rw_iload_n (pc' := 163) (z := z91360) rfl rfl ?_)
              refine wp_of e196 c196_163 (xs_I (pc' := 164) w91770 g91787 (by decide) sh_64 (by decide) (ty_64 _) (by omega) (by omega) ⟨by omega, by omega⟩ (by omega) (by omega) rfl (fun H91791 e91792 w91793 => ?_))
              have f91794 := f91778.put' e91792 g91787 rfl
              refine wp_of e196 c196_164 (rw_aload_n (pc' := 165) (v := .ref r0) rfl rfl rfl ?_)
              have k91795 : H91791 r0 4 = H91766 r0 4 := (wq_u_t e91792 g91787 g0 rfl 4)
              have q91796 : H91791 r0 4 = (rp : Int) := k91795.trans q91784
              refine wp_of e196 c196_165 (xg_K (pc' := 168) lf_9_166 w91793 g0 sh_42 (by decide) (by decide) rfl q91796 rfl ?_)
              refine wp_of e196 c196_168 (xg_R (pc' := 171) lf_9_285 w91793 grp sh_54 (by decide) (by decide) ty_54_19 rfl rfl (fun r91797 q91798 g91799 => ?_))
              refine wp_of e196 c196_171 (rw_aload_n (pc' := 172) (v := .ref r0) rfl rfl rfl ?_)
              refine wp_of e196 c196_172 (xg_K (pc' := 175) lf_9_166 w91793 g0 sh_42 (by decide) (by decide) rfl q91796 rfl ?_)
              have k91800 : H91791 rp 4 = H91766 rp 4 := (wq_u_t e91792 g91787 grp rfl 4)
              refine wp_of e196 c196_175 (xg_I (pc' := 178) lf_9_276 w91793 grp sh_54 (by decide) (by decide) ty_54_4 rfl rfl (fun b91801 b91802 => ?_))
              refine wp_of e196 c196_178 (rw_iload_n (pc' := 179) (z := z91390) rfl rfl ?_)
              refine wp_of e196 c196_179 (xs_I (pc' := 180) w91793 g91799 (by decide) sh_65 (by decide) (ty_65 _) (by omega) (by omega) ⟨by omega, by omega⟩ (by omega) (by omega) rfl (fun H91803 e91804 w91805 => ?_))
              have f91806 := f91794.put' e91804 g91799 rfl
              refine wp_of e196 c196_180 (rw_aload_n (pc' := 181) (v := .ref r0) rfl rfl rfl ?_)
              have k91807 : H91803 r0 4 = H91791 r0 4 := (wq_u_t e91804 g91799 g0 rfl 4)
              have q91808 : H91803 r0 4 = (rp : Int) := k91807.trans q91796
              refine wp_of e196 c196_181 (xg_K (pc' := 184) lf_9_166 w91805 g0 sh_42 (by decide) (by decide) rfl q91808 rfl ?_)
              refine wp_of e196 c196_184 (rw_dup (pc' := 185) rfl rfl ?_)
              have k91809 : H91803 rp 4 = H91791 rp 4 := (wq_u_t e91804 g91799 grp rfl 4)
              refine wp_of e196 c196_185 (xg_I (pc' := 188) lf_9_276 w91805 grp sh_54 (by decide) (by decide) ty_54_4 rfl rfl (fun b91810 b91811 => ?_))
              refine wp_of e196 c196_188 (rw_iconst (pc' := 189) rfl ?_)
              refine wp_of e196 c196_189 (rw_iadd (pc' := 190) rfl ?_)
              refine wp_of e196 c196_190 (xp_I (pc' := 193) lf_9_276 w91805 grp sh_54 (by decide) (by decide) ty_54_4 rfl rfl (by omega) (by omega) ⟨by omega, by omega⟩ rfl (fun H91812 e91813 w91814 => ?_))
              have f91815 := f91806.put' e91813 grp rfl
              have k91816 : H91812 rp 4 = (H91803 rp 4) + 1 := wq_u_s e91813
              have k91817 : H91812 r0 9 = H91766 r0 9 := ((wq_u_t e91813 grp g0 rfl 9).trans ((wq_u_t e91804 g91799 g0 rfl 9).trans (wq_u_t e91792 g91787 g0 rfl 9)))
              have k91818 : H91812 r0 10 = H91766 r0 10 := ((wq_u_t e91813 grp g0 rfl 10).trans ((wq_u_t e91804 g91799 g0 rfl 10).trans (wq_u_t e91792 g91787 g0 rfl 10)))
              have k91819 : wOV H91812 r0 = wOV H91766 r0 := ((wOV_fr w91805 g0 ((wfr.rf (l := [(54, 4)])).put' e91813 grp rfl) rfl).trans ((wOV_fr w91793 g0 ((wfr.rf (l := [(65, 999)])).put' e91804 g91799 rfl) rfl).trans (wOV_fr w91770 g0 ((wfr.rf (l := [(64, 999)])).put' e91792 g91787 rfl) rfl)))
              have k91820 : wJ H91812 r0 = wJ H91766 r0 := ((wJ_fr w91805 g0 ((wfr.rf (l := [(54, 4)])).put' e91813 grp rfl) rfl).trans ((wJ_fr w91793 g0 ((wfr.rf (l := [(65, 999)])).put' e91804 g91799 rfl) rfl).trans (wJ_fr w91770 g0 ((wfr.rf (l := [(64, 999)])).put' e91792 g91787 rfl) rfl)))
              exact wp_return e196 c196_193 rfl ⟨rfl, w91814, f91815, rfl, by omega, by omega, by omega, by omega⟩
            · exact wp_return e196 c196_147 rfl ⟨rfl, w91770, f91778, rfl, by omega, by omega, by omega, by omega⟩
        · refine wp_of e196 c196_54 (rw_iload_n (pc' := 55) (z := v91736) rfl rfl ?_)
          refine wp_of e196 c196_55 (rw_if_ne (p1 := 114) (p2 := 58) (by decide) rfl ⟨by omega, by omega⟩ (fun c91821 => ?_) (fun c91821 => ?_))
          · refine wp_of e196 c196_114 (rw_iconst (pc' := 115) rfl ?_)
            refine wp_of e196 c196_115 (rw_goto (p1 := 119) (by decide) ?_)
            refine wp_of e196 c196_119 (rw_istore_n (pc' := 120) (z := 1) (L' := [(3, vI 1), (4, vI v91735), (2, vI z91390), (1, vI z91360), (0, .ref r0)]) rfl rfl rfl ?_)
            refine wp_of e196 c196_120 (rw_iinc (pc' := 123) (z := v91735) (L' := [(4, vI (v91735 + 1)), (3, vI 1), (2, vI z91390), (1, vI z91360), (0, .ref r0)]) rfl rfl rfl rfl ?_)
            refine wp_of e196 c196_123 (rw_goto (p1 := 42) (by decide) ?_)
            exact wp_lc (ks := [4, 3, 2, 1, 0]) (wl_c rfl (wl_c rfl (wl_c rfl (wl_c rfl (wl_c rfl wl_n))))) rfl (by decide) (ih91734 _ (by omega) (v91735 + 1) 1 ⟨by omega, by omega⟩ ⟨by omega, by omega⟩ rfl)
          · exfalso
            omega
    exact wp_lc (ks := [4, 3, 2, 1, 0]) (wl_c rfl (wl_c rfl (wl_c rfl (wl_c rfl (wl_c rfl wl_n))))) rfl (by decide) (lp91732 _ 0 1 ⟨by omega, by omega⟩ ⟨by omega, by omega⟩ rfl)
/-! StrikeAwakeModel.readBorn()V -/
theorem e198 : wq_en 198 = some (9, 2, false, none) := rfl
theorem c198_0 : mc_cd 198 0 = some (.aload_n 0, 1) := by decide +kernel
theorem c198_1 : mc_cd 198 1 = some (.aload_n 0, 1) := by decide +kernel
theorem c198_2 : mc_cd 198 2 = some (.getfield 166, 3) := by decide +kernel
theorem c198_5 : mc_cd 198 5 = some (.getfield 288, 3) := by decide +kernel
theorem c198_8 : mc_cd 198 8 = some (.iconst 3, 1) := by decide +kernel
theorem c198_9 : mc_cd 198 9 = some (.invokevirtual 228, 3) := by decide +kernel
theorem c198_12 : mc_cd 198 12 = some (.aload_n 0, 1) := by decide +kernel
theorem c198_13 : mc_cd 198 13 = some (.iconst 0, 1) := by decide +kernel
theorem c198_14 : mc_cd 198 14 = some (.bipush 23, 2) := by decide +kernel
theorem c198_16 : mc_cd 198 16 = some (.invokevirtual 137, 3) := by decide +kernel
theorem c198_19 : mc_cd 198 19 = some (.istore_n 1, 1) := by decide +kernel
theorem c198_20 : mc_cd 198 20 = some (.aload_n 0, 1) := by decide +kernel
theorem c198_21 : mc_cd 198 21 = some (.getfield 75, 3) := by decide +kernel
theorem c198_24 : mc_cd 198 24 = some (.iconst 5, 1) := by decide +kernel
theorem c198_25 : mc_cd 198 25 = some (.if_icmp .ne 4, 3) := by decide +kernel
theorem c198_28 : mc_cd 198 28 = some (.return_, 1) := by decide +kernel
theorem c198_29 : mc_cd 198 29 = some (.aload_n 0, 1) := by decide +kernel
theorem c198_30 : mc_cd 198 30 = some (.getfield 166, 3) := by decide +kernel
theorem c198_33 : mc_cd 198 33 = some (.getfield 291, 3) := by decide +kernel
theorem c198_36 : mc_cd 198 36 = some (.aload_n 0, 1) := by decide +kernel
theorem c198_37 : mc_cd 198 37 = some (.getfield 166, 3) := by decide +kernel
theorem c198_40 : mc_cd 198 40 = some (.getfield 288, 3) := by decide +kernel
theorem c198_43 : mc_cd 198 43 = some (.iload_n 1, 1) := by decide +kernel
theorem c198_44 : mc_cd 198 44 = some (.iastore, 1) := by decide +kernel
theorem c198_45 : mc_cd 198 45 = some (.aload_n 0, 1) := by decide +kernel
theorem c198_46 : mc_cd 198 46 = some (.getfield 166, 3) := by decide +kernel
theorem c198_49 : mc_cd 198 49 = some (.dup, 1) := by decide +kernel
theorem c198_50 : mc_cd 198 50 = some (.getfield 288, 3) := by decide +kernel
theorem c198_53 : mc_cd 198 53 = some (.iconst 1, 1) := by decide +kernel
theorem c198_54 : mc_cd 198 54 = some (.iadd, 1) := by decide +kernel
theorem c198_55 : mc_cd 198 55 = some (.putfield 288, 3) := by decide +kernel
theorem c198_58 : mc_cd 198 58 = some (.return_, 1) := by decide +kernel
abbrev q_198 (r0 : Nat) (rp : Nat) (T : wq_T) (H : wq_H) : Option Value → wq_T → wq_H → Prop := fun r T' H' => T = T' ∧ WT T H' ∧ wfr [(54, 5), (42, 8), (42, 9), (42, 10), (42, 11), (42, 12), (42, 13), (42, 14), (42, 15), (66, 999)] T H H' ∧ none = r ∧ (wJ H' r0 = 1) ∧ (H r0 10 ≤ H' r0 10) ∧ (wOV H r0 ≤ wOV H' r0) ∧ (wOV H' r0 ≤ 1)
set_option maxHeartbeats 4000000 in
theorem s_198 {kt : Nat → Option mc_E} {T : wq_T} {H : wq_H} {r0 : Nat} {rp : Nat} (hW : WT T H) (g0 : T.2.2.2 r0 = some 42) (qrp : H r0 4 = (rp : Int)) (grp : T.2.2.2 rp = some 54) (p0 : wJ H r0 = 1) : wpc kt 4 198 [.ref r0] T H (q_198 r0 rp T H) := by
  refine wp_enter e198 (Nat.le_of_ble_eq_true rfl) rfl ?_
  have f0 : wfr [(54, 5), (42, 8), (42, 9), (42, 10), (42, 11), (42, 12), (42, 13), (42, 14), (42, 15), (66, 999)] T H H := wfr.rf
  show wp _ _ 198 0 [(0, .ref r0)] [] _ H _
  have b91884 : (-2147483648) ≤ H r0 10 ∧ H r0 10 ≤ 2147483647 := hW.box g0 (n := 33) rfl (by decide) rfl
  have b91885 : 0 ≤ H r0 9 ∧ H r0 9 ≤ 5 := hW.box g0 (n := 33) rfl (by decide) rfl
  have b91886 : 0 ≤ H r0 8 ∧ H r0 8 ≤ 900 := hW.box g0 (n := 33) rfl (by decide) rfl
  have hb0 := wOV_b (H := H) (m := r0)
  refine wp_of e198 c198_0 (rw_aload_n (pc' := 1) (v := .ref r0) rfl rfl rfl ?_)
  refine wp_of e198 c198_1 (rw_aload_n (pc' := 2) (v := .ref r0) rfl rfl rfl ?_)
  refine wp_of e198 c198_2 (xg_K (pc' := 5) lf_9_166 hW g0 sh_42 (by decide) (by decide) rfl qrp rfl ?_)
  refine wp_of e198 c198_5 (xg_I (pc' := 8) lf_9_288 hW grp sh_54 (by decide) (by decide) ty_54_5 rfl rfl (fun b91887 b91888 => ?_))
  refine wp_of e198 c198_8 (rw_iconst (pc' := 9) rfl ?_)
  refine wp_of e198 c198_9 (xc_V (pc' := 12) (r := r0) (as := [vI (H rp 5), vI 3]) (st := []) (lm_9_228) rfl rfl (Nat.le_of_ble_eq_true rfl) hW g0 sh_42 (by decide) rfl (by decide) (s_188 hW g0 ⟨by omega, by omega⟩ ⟨by omega, by omega⟩ (by omega)) (fun R91889 T91890 H91891 p91892 => ?_))
  obtain ⟨e91893, w91895, f91896, e91894, p91897, p91898, p91899, p91900, p91901⟩ := p91892
  subst e91893
  subst e91894
  have f91902 := f0.tr f91896 rfl
  show wp _ _ 198 12 [(0, .ref r0)] [] _ H91891 _
  refine wp_of e198 c198_12 (rw_aload_n (pc' := 13) (v := .ref r0) rfl rfl rfl ?_)
  refine wp_of e198 c198_13 (rw_iconst (pc' := 14) rfl ?_)
  refine wp_of e198 c198_14 (rw_bipush (pc' := 16) (z := 23) rfl (by decide) ?_)
  refine wp_of e198 c198_16 (xc_V (pc' := 19) (r := r0) (as := [vI 0, vI 23]) (st := []) (lm_9_137) rfl rfl (Nat.le_of_ble_eq_true rfl) w91895 g0 sh_42 (by decide) rfl (by decide) (s_184 w91895 g0 ⟨by omega, by omega⟩ ⟨by omega, by omega⟩ (by omega)) (fun R91903 T91904 H91905 p91906 => ?_))
  obtain ⟨e91907, w91909, f91910, z91916, e91908, b91917, p91911, p91912, p91913, p91914, p91915⟩ := p91906
  subst e91907
  subst e91908
  have f91918 := f91902.tr f91910 rfl
  show wp _ _ 198 19 [(0, .ref r0)] [vI z91916] _ H91905 _
  refine wp_of e198 c198_19 (rw_istore_n (pc' := 20) (z := z91916) (L' := [(1, vI z91916), (0, .ref r0)]) rfl rfl rfl ?_)
  refine wp_of e198 c198_20 (rw_aload_n (pc' := 21) (v := .ref r0) rfl rfl rfl ?_)
  refine wp_of e198 c198_21 (xg_I (pc' := 24) lf_9_75 w91909 g0 sh_42 (by decide) (by decide) ty_42_9 rfl rfl (fun b91919 b91920 => ?_))
  have k91921 := wOV_e (H := H91905) (m := r0)
  refine wp_of e198 c198_24 (rw_iconst (pc' := 25) rfl ?_)
  refine wp_of e198 c198_25 (rw_icmp_ne (p1 := 29) (p2 := 28) (by decide) rfl ⟨by omega, by omega⟩ ⟨by omega, by omega⟩ (fun c91922 => ?_) (fun c91922 => ?_))
  · refine wp_of e198 c198_29 (rw_aload_n (pc' := 30) (v := .ref r0) rfl rfl rfl ?_)
    have k91923 : H91905 r0 4 = H r0 4 := ((f91910 r0 4 _ g0 rfl).trans (f91896 r0 4 _ g0 rfl))
    have q91924 : H91905 r0 4 = (rp : Int) := k91923.trans qrp
    refine wp_of e198 c198_30 (xg_K (pc' := 33) lf_9_166 w91909 g0 sh_42 (by decide) (by decide) rfl q91924 rfl ?_)
    refine wp_of e198 c198_33 (xg_R (pc' := 36) lf_9_291 w91909 grp sh_54 (by decide) (by decide) ty_54_20 rfl rfl (fun r91925 q91926 g91927 => ?_))
    refine wp_of e198 c198_36 (rw_aload_n (pc' := 37) (v := .ref r0) rfl rfl rfl ?_)
    refine wp_of e198 c198_37 (xg_K (pc' := 40) lf_9_166 w91909 g0 sh_42 (by decide) (by decide) rfl q91924 rfl ?_)
    have k91928 : H91905 rp 5 = H rp 5 := ((f91910 rp 5 _ grp rfl).trans (f91896 rp 5 _ grp rfl))
    refine wp_of e198 c198_40 (xg_I (pc' := 43) lf_9_288 w91909 grp sh_54 (by decide) (by decide) ty_54_5 rfl rfl (fun b91929 b91930 => ?_))
    refine wp_of e198 c198_43 (rw_iload_n (pc' := 44) (z := z91916) rfl rfl ?_)
    refine wp_of e198 c198_44 (xs_I (pc' := 45) w91909 g91927 (by decide) sh_66 (by decide) (ty_66 _) (by omega) (by omega) ⟨by omega, by omega⟩ (by omega) (by omega) rfl (fun H91931 e91932 w91933 => ?_))
    have f91934 := f91918.put' e91932 g91927 rfl
    refine wp_of e198 c198_45 (rw_aload_n (pc' := 46) (v := .ref r0) rfl rfl rfl ?_)
    have k91935 : H91931 r0 4 = H91905 r0 4 := (wq_u_t e91932 g91927 g0 rfl 4)
    have q91936 : H91931 r0 4 = (rp : Int) := k91935.trans q91924
    refine wp_of e198 c198_46 (xg_K (pc' := 49) lf_9_166 w91933 g0 sh_42 (by decide) (by decide) rfl q91936 rfl ?_)
    refine wp_of e198 c198_49 (rw_dup (pc' := 50) rfl rfl ?_)
    have k91937 : H91931 rp 5 = H91905 rp 5 := (wq_u_t e91932 g91927 grp rfl 5)
    refine wp_of e198 c198_50 (xg_I (pc' := 53) lf_9_288 w91933 grp sh_54 (by decide) (by decide) ty_54_5 rfl rfl (fun b91938 b91939 => ?_))
    refine wp_of e198 c198_53 (rw_iconst (pc' := 54) rfl ?_)
    refine wp_of e198 c198_54 (rw_iadd (pc' := 55) rfl ?_)
    refine wp_of e198 c198_55 (xp_I (pc' := 58) lf_9_288 w91933 grp sh_54 (by decide) (by decide) ty_54_5 rfl rfl (by omega) (by omega) ⟨by omega, by omega⟩ rfl (fun H91940 e91941 w91942 => ?_))
    have f91943 := f91934.put' e91941 grp rfl
    have k91944 : H91940 rp 5 = (H91931 rp 5) + 1 := wq_u_s e91941
    have k91945 : H91940 r0 9 = H91905 r0 9 := ((wq_u_t e91941 grp g0 rfl 9).trans (wq_u_t e91932 g91927 g0 rfl 9))
    have k91946 : H91940 r0 10 = H91905 r0 10 := ((wq_u_t e91941 grp g0 rfl 10).trans (wq_u_t e91932 g91927 g0 rfl 10))
    have k91947 : wOV H91940 r0 = wOV H91905 r0 := ((wOV_fr w91933 g0 ((wfr.rf (l := [(54, 5)])).put' e91941 grp rfl) rfl).trans (wOV_fr w91909 g0 ((wfr.rf (l := [(66, 999)])).put' e91932 g91927 rfl) rfl))
    have k91948 : wJ H91940 r0 = wJ H91905 r0 := ((wJ_fr w91933 g0 ((wfr.rf (l := [(54, 5)])).put' e91941 grp rfl) rfl).trans (wJ_fr w91909 g0 ((wfr.rf (l := [(66, 999)])).put' e91932 g91927 rfl) rfl))
    exact wp_return e198 c198_58 rfl ⟨rfl, w91942, f91943, rfl, by omega, by omega, by omega, by omega⟩
  · exact wp_return e198 c198_28 rfl ⟨rfl, w91909, f91918, rfl, by omega, by omega, by omega, by omega⟩
/-! StrikeAwakeModel.readStruck()V -/
theorem e199 : wq_en 199 = some (9, 3, false, none) := rfl
theorem c199_0 : mc_cd 199 0 = some (.aload_n 0, 1) := by decide +kernel
theorem c199_1 : mc_cd 199 1 = some (.aload_n 0, 1) := by decide +kernel
theorem c199_2 : mc_cd 199 2 = some (.getfield 293, 3) := by decide +kernel
theorem c199_5 : mc_cd 199 5 = some (.bipush 24, 2) := by decide +kernel
theorem c199_7 : mc_cd 199 7 = some (.invokevirtual 228, 3) := by decide +kernel
theorem c199_10 : mc_cd 199 10 = some (.aload_n 0, 1) := by decide +kernel
theorem c199_11 : mc_cd 199 11 = some (.iconst 0, 1) := by decide +kernel
theorem c199_12 : mc_cd 199 12 = some (.bipush 23, 2) := by decide +kernel
theorem c199_14 : mc_cd 199 14 = some (.invokevirtual 129, 3) := by decide +kernel
theorem c199_17 : mc_cd 199 17 = some (.istore_n 1, 1) := by decide +kernel
theorem c199_18 : mc_cd 199 18 = some (.aload_n 0, 1) := by decide +kernel
theorem c199_19 : mc_cd 199 19 = some (.getfield 75, 3) := by decide +kernel
theorem c199_22 : mc_cd 199 22 = some (.iconst 5, 1) := by decide +kernel
theorem c199_23 : mc_cd 199 23 = some (.if_icmp .eq 20, 3) := by decide +kernel
theorem c199_26 : mc_cd 199 26 = some (.aload_n 0, 1) := by decide +kernel
theorem c199_27 : mc_cd 199 27 = some (.getfield 166, 3) := by decide +kernel
theorem c199_30 : mc_cd 199 30 = some (.getfield 296, 3) := by decide +kernel
theorem c199_33 : mc_cd 199 33 = some (.iload_n 1, 1) := by decide +kernel
theorem c199_34 : mc_cd 199 34 = some (.iaload, 1) := by decide +kernel
theorem c199_35 : mc_cd 199 35 = some (.ifCond .le 8, 3) := by decide +kernel
theorem c199_38 : mc_cd 199 38 = some (.aload_n 0, 1) := by decide +kernel
theorem c199_39 : mc_cd 199 39 = some (.iconst 3, 1) := by decide +kernel
theorem c199_40 : mc_cd 199 40 = some (.invokevirtual 121, 3) := by decide +kernel
theorem c199_43 : mc_cd 199 43 = some (.aload_n 0, 1) := by decide +kernel
theorem c199_44 : mc_cd 199 44 = some (.invokevirtual 118, 3) := by decide +kernel
theorem c199_47 : mc_cd 199 47 = some (.aload_n 0, 1) := by decide +kernel
theorem c199_48 : mc_cd 199 48 = some (.ldc_w 298, 3) := by decide +kernel
theorem c199_51 : mc_cd 199 51 = some (.iconst 0, 1) := by decide +kernel
theorem c199_52 : mc_cd 199 52 = some (.bipush 99, 2) := by decide +kernel
theorem c199_54 : mc_cd 199 54 = some (.invokevirtual 216, 3) := by decide +kernel
theorem c199_57 : mc_cd 199 57 = some (.istore_n 2, 1) := by decide +kernel
theorem c199_58 : mc_cd 199 58 = some (.aload_n 0, 1) := by decide +kernel
theorem c199_59 : mc_cd 199 59 = some (.getfield 75, 3) := by decide +kernel
theorem c199_62 : mc_cd 199 62 = some (.iconst 5, 1) := by decide +kernel
theorem c199_63 : mc_cd 199 63 = some (.if_icmp .ne 4, 3) := by decide +kernel
theorem c199_66 : mc_cd 199 66 = some (.return_, 1) := by decide +kernel
theorem c199_67 : mc_cd 199 67 = some (.aload_n 0, 1) := by decide +kernel
theorem c199_68 : mc_cd 199 68 = some (.getfield 166, 3) := by decide +kernel
theorem c199_71 : mc_cd 199 71 = some (.getfield 296, 3) := by decide +kernel
theorem c199_74 : mc_cd 199 74 = some (.iload_n 1, 1) := by decide +kernel
theorem c199_75 : mc_cd 199 75 = some (.iload_n 2, 1) := by decide +kernel
theorem c199_76 : mc_cd 199 76 = some (.iconst 1, 1) := by decide +kernel
theorem c199_77 : mc_cd 199 77 = some (.iadd, 1) := by decide +kernel
theorem c199_78 : mc_cd 199 78 = some (.iastore, 1) := by decide +kernel
theorem c199_79 : mc_cd 199 79 = some (.aload_n 0, 1) := by decide +kernel
theorem c199_80 : mc_cd 199 80 = some (.dup, 1) := by decide +kernel
theorem c199_81 : mc_cd 199 81 = some (.getfield 293, 3) := by decide +kernel
theorem c199_84 : mc_cd 199 84 = some (.iconst 1, 1) := by decide +kernel
theorem c199_85 : mc_cd 199 85 = some (.iadd, 1) := by decide +kernel
theorem c199_86 : mc_cd 199 86 = some (.putfield 293, 3) := by decide +kernel
theorem c199_89 : mc_cd 199 89 = some (.return_, 1) := by decide +kernel
abbrev q_199 (r0 : Nat) (rp : Nat) (T : wq_T) (H : wq_H) : Option Value → wq_T → wq_H → Prop := fun r T' H' => T = T' ∧ WT T H' ∧ wfr [(42, 8), (42, 9), (42, 10), (42, 11), (42, 12), (42, 13), (42, 14), (42, 15), (42, 16), (67, 999)] T H H' ∧ none = r ∧ (wJ H' r0 = 1) ∧ (H r0 10 ≤ H' r0 10) ∧ (wOV H r0 ≤ wOV H' r0) ∧ (wOV H' r0 ≤ 1)
set_option maxHeartbeats 4000000 in
theorem s_199 {kt : Nat → Option mc_E} {T : wq_T} {H : wq_H} {r0 : Nat} {rp : Nat} (hW : WT T H) (g0 : T.2.2.2 r0 = some 42) (qrp : H r0 4 = (rp : Int)) (grp : T.2.2.2 rp = some 54) (p0 : wJ H r0 = 1) : wpc kt 5 199 [.ref r0] T H (q_199 r0 rp T H) := by
  refine wp_enter e199 (Nat.le_of_ble_eq_true rfl) rfl ?_
  have f0 : wfr [(42, 8), (42, 9), (42, 10), (42, 11), (42, 12), (42, 13), (42, 14), (42, 15), (42, 16), (67, 999)] T H H := wfr.rf
  show wp _ _ 199 0 [(0, .ref r0)] [] _ H _
  have b92174 : (-2147483648) ≤ H r0 10 ∧ H r0 10 ≤ 2147483647 := hW.box g0 (n := 33) rfl (by decide) rfl
  have b92175 : 0 ≤ H r0 9 ∧ H r0 9 ≤ 5 := hW.box g0 (n := 33) rfl (by decide) rfl
  have b92176 : 0 ≤ H r0 8 ∧ H r0 8 ≤ 900 := hW.box g0 (n := 33) rfl (by decide) rfl
  have hb0 := wOV_b (H := H) (m := r0)
  refine wp_of e199 c199_0 (rw_aload_n (pc' := 1) (v := .ref r0) rfl rfl rfl ?_)
  refine wp_of e199 c199_1 (rw_aload_n (pc' := 2) (v := .ref r0) rfl rfl rfl ?_)
  refine wp_of e199 c199_2 (xg_I (pc' := 5) lf_9_293 hW g0 sh_42 (by decide) (by decide) ty_42_16 rfl rfl (fun b92177 b92178 => ?_))
  refine wp_of e199 c199_5 (rw_bipush (pc' := 7) (z := 24) rfl (by decide) ?_)
  refine wp_of e199 c199_7 (xc_V (pc' := 10) (r := r0) (as := [vI (H r0 16), vI 24]) (st := []) (lm_9_228) rfl rfl (Nat.le_of_ble_eq_true rfl) hW g0 sh_42 (by decide) rfl (by decide) (s_188 hW g0 ⟨by omega, by omega⟩ ⟨by omega, by omega⟩ (by omega)) (fun R92179 T92180 H92181 p92182 => ?_))
  obtain ⟨e92183, w92185, f92186, e92184, p92187, p92188, p92189, p92190, p92191⟩ := p92182
  subst e92183
  subst e92184
  have f92192 := f0.tr f92186 rfl
  show wp _ _ 199 10 [(0, .ref r0)] [] _ H92181 _
  refine wp_of e199 c199_10 (rw_aload_n (pc' := 11) (v := .ref r0) rfl rfl rfl ?_)
  refine wp_of e199 c199_11 (rw_iconst (pc' := 12) rfl ?_)
  refine wp_of e199 c199_12 (rw_bipush (pc' := 14) (z := 23) rfl (by decide) ?_)
  refine wp_of e199 c199_14 (xc_V (pc' := 17) (r := r0) (as := [vI 0, vI 23]) (st := []) (lm_9_129) rfl rfl (Nat.le_of_ble_eq_true rfl) w92185 g0 sh_42 (by decide) rfl (by decide) (s_185 w92185 g0 ⟨by omega, by omega⟩ ⟨by omega, by omega⟩ (by omega)) (fun R92193 T92194 H92195 p92196 => ?_))
  obtain ⟨e92197, w92199, f92200, z92206, e92198, b92207, p92201, p92202, p92203, p92204, p92205⟩ := p92196
  subst e92197
  subst e92198
  have f92208 := f92192.tr f92200 rfl
  show wp _ _ 199 17 [(0, .ref r0)] [vI z92206] _ H92195 _
  refine wp_of e199 c199_17 (rw_istore_n (pc' := 18) (z := z92206) (L' := [(1, vI z92206), (0, .ref r0)]) rfl rfl rfl ?_)
  refine wp_of e199 c199_18 (rw_aload_n (pc' := 19) (v := .ref r0) rfl rfl rfl ?_)
  refine wp_of e199 c199_19 (xg_I (pc' := 22) lf_9_75 w92199 g0 sh_42 (by decide) (by decide) ty_42_9 rfl rfl (fun b92209 b92210 => ?_))
  have k92211 := wOV_e (H := H92195) (m := r0)
  refine wp_of e199 c199_22 (rw_iconst (pc' := 23) rfl ?_)
  refine wp_of e199 c199_23 (rw_icmp_eq (p1 := 43) (p2 := 26) (by decide) rfl ⟨by omega, by omega⟩ ⟨by omega, by omega⟩ (fun c92212 => ?_) (fun c92212 => ?_))
  · refine wp_of e199 c199_43 (rw_aload_n (pc' := 44) (v := .ref r0) rfl rfl rfl ?_)
    refine wp_of e199 c199_44 (xc_V (pc' := 47) (r := r0) (as := []) (st := []) (lm_9_118) rfl rfl (Nat.le_of_ble_eq_true rfl) w92199 g0 sh_42 (by decide) rfl (by decide) (s_172 w92199 g0 (by omega)) (fun R92213 T92214 H92215 p92216 => ?_))
    obtain ⟨e92217, w92219, f92220, e92218, p92221, p92222, p92223, p92224, p92225, p92226⟩ := p92216
    subst e92217
    subst e92218
    have f92227 := f92208.tr f92220 rfl
    show wp _ _ 199 47 [(1, vI z92206), (0, .ref r0)] [] _ H92215 _
    refine wp_of e199 c199_47 (rw_aload_n (pc' := 48) (v := .ref r0) rfl rfl rfl ?_)
    refine wp_of e199 c199_48 (rw_ldc_wS (pc' := 51) (k := 89) rfl rfl rfl rfl ?_)
    refine wp_of e199 c199_51 (rw_iconst (pc' := 52) rfl ?_)
    refine wp_of e199 c199_52 (rw_bipush (pc' := 54) (z := 99) rfl (by decide) ?_)
    refine wp_of e199 c199_54 (xc_V (pc' := 57) (r := r0) (as := [.ref 89, vI 0, vI 99]) (st := []) (lm_9_216) rfl rfl (Nat.le_of_ble_eq_true rfl) w92219 g0 sh_42 (by decide) rfl (by decide) (s_182 w92219 g0 rfl ⟨by omega, by omega⟩ ⟨by omega, by omega⟩ (by omega)) (fun R92228 T92229 H92230 p92231 => ?_))
    obtain ⟨e92232, w92234, f92235, z92241, e92233, b92242, p92236, p92237, p92238, p92239, p92240⟩ := p92231
    subst e92232
    subst e92233
    have f92243 := f92227.tr f92235 rfl
    show wp _ _ 199 57 [(1, vI z92206), (0, .ref r0)] [vI z92241] _ H92230 _
    refine wp_of e199 c199_57 (rw_istore_n (pc' := 58) (z := z92241) (L' := [(2, vI z92241), (1, vI z92206), (0, .ref r0)]) rfl rfl rfl ?_)
    refine wp_of e199 c199_58 (rw_aload_n (pc' := 59) (v := .ref r0) rfl rfl rfl ?_)
    refine wp_of e199 c199_59 (xg_I (pc' := 62) lf_9_75 w92234 g0 sh_42 (by decide) (by decide) ty_42_9 rfl rfl (fun b92244 b92245 => ?_))
    have k92246 := wOV_e (H := H92230) (m := r0)
    refine wp_of e199 c199_62 (rw_iconst (pc' := 63) rfl ?_)
    refine wp_of e199 c199_63 (rw_icmp_ne (p1 := 67) (p2 := 66) (by decide) rfl ⟨by omega, by omega⟩ ⟨by omega, by omega⟩ (fun c92247 => ?_) (fun c92247 => ?_))
    · refine wp_of e199 c199_67 (rw_aload_n (pc' := 68) (v := .ref r0) rfl rfl rfl ?_)
      have k92248 : H92230 r0 4 = H r0 4 := ((f92235 r0 4 _ g0 rfl).trans ((f92220 r0 4 _ g0 rfl).trans ((f92200 r0 4 _ g0 rfl).trans (f92186 r0 4 _ g0 rfl))))
      have q92249 : H92230 r0 4 = (rp : Int) := k92248.trans qrp
      refine wp_of e199 c199_68 (xg_K (pc' := 71) lf_9_166 w92234 g0 sh_42 (by decide) (by decide) rfl q92249 rfl ?_)
      refine wp_of e199 c199_71 (xg_R (pc' := 74) lf_9_296 w92234 grp sh_54 (by decide) (by decide) ty_54_21 rfl rfl (fun r92250 q92251 g92252 => ?_))
      refine wp_of e199 c199_74 (rw_iload_n (pc' := 75) (z := z92206) rfl rfl ?_)
      refine wp_of e199 c199_75 (rw_iload_n (pc' := 76) (z := z92241) rfl rfl ?_)
      refine wp_of e199 c199_76 (rw_iconst (pc' := 77) rfl ?_)
      refine wp_of e199 c199_77 (rw_iadd (pc' := 78) rfl ?_)
      refine wp_of e199 c199_78 (xs_I (pc' := 79) w92234 g92252 (by decide) sh_67 (by decide) (ty_67 _) (by omega) (by omega) ⟨by omega, by omega⟩ (by omega) (by omega) rfl (fun H92253 e92254 w92255 => ?_))
      have f92256 := f92243.put' e92254 g92252 rfl
      refine wp_of e199 c199_79 (rw_aload_n (pc' := 80) (v := .ref r0) rfl rfl rfl ?_)
      refine wp_of e199 c199_80 (rw_dup (pc' := 81) rfl rfl ?_)
      have k92257 : H92253 r0 16 = H r0 16 := ((wq_u_t e92254 g92252 g0 rfl 16).trans ((f92235 r0 16 _ g0 rfl).trans ((f92220 r0 16 _ g0 rfl).trans ((f92200 r0 16 _ g0 rfl).trans (f92186 r0 16 _ g0 rfl)))))
      refine wp_of e199 c199_81 (xg_I (pc' := 84) lf_9_293 w92255 g0 sh_42 (by decide) (by decide) ty_42_16 rfl rfl (fun b92258 b92259 => ?_))
      refine wp_of e199 c199_84 (rw_iconst (pc' := 85) rfl ?_)
      refine wp_of e199 c199_85 (rw_iadd (pc' := 86) rfl ?_)
      refine wp_of e199 c199_86 (xp_I (pc' := 89) lf_9_293 w92255 g0 sh_42 (by decide) (by decide) ty_42_16 rfl rfl (by omega) (by omega) ⟨by omega, by omega⟩ rfl (fun H92260 e92261 w92262 => ?_))
      have f92263 := f92256.put' e92261 g0 rfl
      have k92264 : H92260 r0 16 = (H92253 r0 16) + 1 := wq_u_s e92261
      have k92265 : H92260 r0 9 = H92230 r0 9 := ((wq_u_j e92261 rfl).trans (wq_u_t e92254 g92252 g0 rfl 9))
      have k92266 : H92260 r0 10 = H92230 r0 10 := ((wq_u_j e92261 rfl).trans (wq_u_t e92254 g92252 g0 rfl 10))
      have k92267 : wOV H92260 r0 = wOV H92230 r0 := ((wOV_fr w92255 g0 ((wfr.rf (l := [(42, 16)])).put' e92261 g0 rfl) rfl).trans (wOV_fr w92234 g0 ((wfr.rf (l := [(67, 999)])).put' e92254 g92252 rfl) rfl))
      have k92268 : wJ H92260 r0 = wJ H92230 r0 := ((wJ_fr w92255 g0 ((wfr.rf (l := [(42, 16)])).put' e92261 g0 rfl) rfl).trans (wJ_fr w92234 g0 ((wfr.rf (l := [(67, 999)])).put' e92254 g92252 rfl) rfl))
      exact wp_return e199 c199_89 rfl ⟨rfl, w92262, f92263, rfl, by omega, by omega, by omega, by omega⟩
    · exact wp_return e199 c199_66 rfl ⟨rfl, w92234, f92243, rfl, by omega, by omega, by omega, by omega⟩
  · refine wp_of e199 c199_26 (rw_aload_n (pc' := 27) (v := .ref r0) rfl rfl rfl ?_)
    have k92269 : H92195 r0 4 = H r0 4 := ((f92200 r0 4 _ g0 rfl).trans (f92186 r0 4 _ g0 rfl))
    have q92270 : H92195 r0 4 = (rp : Int) := k92269.trans qrp
    refine wp_of e199 c199_27 (xg_K (pc' := 30) lf_9_166 w92199 g0 sh_42 (by decide) (by decide) rfl q92270 rfl ?_)
    refine wp_of e199 c199_30 (xg_R (pc' := 33) lf_9_296 w92199 grp sh_54 (by decide) (by decide) ty_54_21 rfl rfl (fun r92271 q92272 g92273 => ?_))
    refine wp_of e199 c199_33 (rw_iload_n (pc' := 34) (z := z92206) rfl rfl ?_)
    refine wp_of e199 c199_34 (xa_I (so := 0) (pc' := 35) w92199 g92273 sh_67 (by decide) (ty_67 _) (by omega) (by omega) rfl (fun b92274 b92275 => ?_))
    refine wp_of e199 c199_35 (rw_if_le (p1 := 43) (p2 := 38) (by decide) rfl ⟨by omega, by omega⟩ (fun c92276 => ?_) (fun c92276 => ?_))
    · refine wp_of e199 c199_43 (rw_aload_n (pc' := 44) (v := .ref r0) rfl rfl rfl ?_)
      refine wp_of e199 c199_44 (xc_V (pc' := 47) (r := r0) (as := []) (st := []) (lm_9_118) rfl rfl (Nat.le_of_ble_eq_true rfl) w92199 g0 sh_42 (by decide) rfl (by decide) (s_172 w92199 g0 (by omega)) (fun R92277 T92278 H92279 p92280 => ?_))
      obtain ⟨e92281, w92283, f92284, e92282, p92285, p92286, p92287, p92288, p92289, p92290⟩ := p92280
      subst e92281
      subst e92282
      have f92291 := f92208.tr f92284 rfl
      show wp _ _ 199 47 [(1, vI z92206), (0, .ref r0)] [] _ H92279 _
      refine wp_of e199 c199_47 (rw_aload_n (pc' := 48) (v := .ref r0) rfl rfl rfl ?_)
      refine wp_of e199 c199_48 (rw_ldc_wS (pc' := 51) (k := 89) rfl rfl rfl rfl ?_)
      refine wp_of e199 c199_51 (rw_iconst (pc' := 52) rfl ?_)
      refine wp_of e199 c199_52 (rw_bipush (pc' := 54) (z := 99) rfl (by decide) ?_)
      refine wp_of e199 c199_54 (xc_V (pc' := 57) (r := r0) (as := [.ref 89, vI 0, vI 99]) (st := []) (lm_9_216) rfl rfl (Nat.le_of_ble_eq_true rfl) w92283 g0 sh_42 (by decide) rfl (by decide) (s_182 w92283 g0 rfl ⟨by omega, by omega⟩ ⟨by omega, by omega⟩ (by omega)) (fun R92292 T92293 H92294 p92295 => ?_))
      obtain ⟨e92296, w92298, f92299, z92305, e92297, b92306, p92300, p92301, p92302, p92303, p92304⟩ := p92295
      subst e92296
      subst e92297
      have f92307 := f92291.tr f92299 rfl
      show wp _ _ 199 57 [(1, vI z92206), (0, .ref r0)] [vI z92305] _ H92294 _
      refine wp_of e199 c199_57 (rw_istore_n (pc' := 58) (z := z92305) (L' := [(2, vI z92305), (1, vI z92206), (0, .ref r0)]) rfl rfl rfl ?_)
      refine wp_of e199 c199_58 (rw_aload_n (pc' := 59) (v := .ref r0) rfl rfl rfl ?_)
      refine wp_of e199 c199_59 (xg_I (pc' := 62) lf_9_75 w92298 g0 sh_42 (by decide) (by decide) ty_42_9 rfl rfl (fun b92308 b92309 => ?_))
      have k92310 := wOV_e (H := H92294) (m := r0)
      refine wp_of e199 c199_62 (rw_iconst (pc' := 63) rfl ?_)
      refine wp_of e199 c199_63 (rw_icmp_ne (p1 := 67) (p2 := 66) (by decide) rfl ⟨by omega, by omega⟩ ⟨by omega, by omega⟩ (fun c92311 => ?_) (fun c92311 => ?_))
      · refine wp_of e199 c199_67 (rw_aload_n (pc' := 68) (v := .ref r0) rfl rfl rfl ?_)
        have k92312 : H92294 r0 4 = H92195 r0 4 := ((f92299 r0 4 _ g0 rfl).trans (f92284 r0 4 _ g0 rfl))
        have q92313 : H92294 r0 4 = (rp : Int) := k92312.trans q92270
        refine wp_of e199 c199_68 (xg_K (pc' := 71) lf_9_166 w92298 g0 sh_42 (by decide) (by decide) rfl q92313 rfl ?_)
        have k92314 : H92294 rp 21 = H92195 rp 21 := ((f92299 rp 21 _ grp rfl).trans (f92284 rp 21 _ grp rfl))
        have q92315 : H92294 rp 21 = (r92271 : Int) := k92314.trans q92272
        refine wp_of e199 c199_71 (xg_K (pc' := 74) lf_9_296 w92298 grp sh_54 (by decide) (by decide) rfl q92315 rfl ?_)
        refine wp_of e199 c199_74 (rw_iload_n (pc' := 75) (z := z92206) rfl rfl ?_)
        refine wp_of e199 c199_75 (rw_iload_n (pc' := 76) (z := z92305) rfl rfl ?_)
        refine wp_of e199 c199_76 (rw_iconst (pc' := 77) rfl ?_)
        refine wp_of e199 c199_77 (rw_iadd (pc' := 78) rfl ?_)
        refine wp_of e199 c199_78 (xs_I (pc' := 79) w92298 g92273 (by decide) sh_67 (by decide) (ty_67 _) (by omega) (by omega) ⟨by omega, by omega⟩ (by omega) (by omega) rfl (fun H92316 e92317 w92318 => ?_))
        have f92319 := f92307.put' e92317 g92273 rfl
        refine wp_of e199 c199_79 (rw_aload_n (pc' := 80) (v := .ref r0) rfl rfl rfl ?_)
        refine wp_of e199 c199_80 (rw_dup (pc' := 81) rfl rfl ?_)
        have k92320 : H92316 r0 16 = H r0 16 := ((wq_u_t e92317 g92273 g0 rfl 16).trans ((f92299 r0 16 _ g0 rfl).trans ((f92284 r0 16 _ g0 rfl).trans ((f92200 r0 16 _ g0 rfl).trans (f92186 r0 16 _ g0 rfl)))))
        refine wp_of e199 c199_81 (xg_I (pc' := 84) lf_9_293 w92318 g0 sh_42 (by decide) (by decide) ty_42_16 rfl rfl (fun b92321 b92322 => ?_))
        refine wp_of e199 c199_84 (rw_iconst (pc' := 85) rfl ?_)
        refine wp_of e199 c199_85 (rw_iadd (pc' := 86) rfl ?_)
        refine wp_of e199 c199_86 (xp_I (pc' := 89) lf_9_293 w92318 g0 sh_42 (by decide) (by decide) ty_42_16 rfl rfl (by omega) (by omega) ⟨by omega, by omega⟩ rfl (fun H92323 e92324 w92325 => ?_))
        have f92326 := f92319.put' e92324 g0 rfl
        have k92327 : H92323 r0 16 = (H92316 r0 16) + 1 := wq_u_s e92324
        have k92328 : H92323 r0 9 = H92294 r0 9 := ((wq_u_j e92324 rfl).trans (wq_u_t e92317 g92273 g0 rfl 9))
        have k92329 : H92323 r0 10 = H92294 r0 10 := ((wq_u_j e92324 rfl).trans (wq_u_t e92317 g92273 g0 rfl 10))
        have k92330 : wOV H92323 r0 = wOV H92294 r0 := ((wOV_fr w92318 g0 ((wfr.rf (l := [(42, 16)])).put' e92324 g0 rfl) rfl).trans (wOV_fr w92298 g0 ((wfr.rf (l := [(67, 999)])).put' e92317 g92273 rfl) rfl))
        have k92331 : wJ H92323 r0 = wJ H92294 r0 := ((wJ_fr w92318 g0 ((wfr.rf (l := [(42, 16)])).put' e92324 g0 rfl) rfl).trans (wJ_fr w92298 g0 ((wfr.rf (l := [(67, 999)])).put' e92317 g92273 rfl) rfl))
        exact wp_return e199 c199_89 rfl ⟨rfl, w92325, f92326, rfl, by omega, by omega, by omega, by omega⟩
      · exact wp_return e199 c199_66 rfl ⟨rfl, w92298, f92307, rfl, by omega, by omega, by omega, by omega⟩
    · refine wp_of e199 c199_38 (rw_aload_n (pc' := 39) (v := .ref r0) rfl rfl rfl ?_)
      refine wp_of e199 c199_39 (rw_iconst (pc' := 40) rfl ?_)
      refine wp_of e199 c199_40 (xc_V (pc' := 43) (r := r0) (as := [vI 3]) (st := []) (lm_9_121) rfl rfl (Nat.le_of_ble_eq_true rfl) w92199 g0 sh_42 (by decide) rfl (by decide) (s_181 w92199 g0 ⟨by omega, by omega⟩ (by omega)) (fun R92332 T92333 H92334 p92335 => ?_))
      obtain ⟨e92336, w92338, f92339, e92337, p92340, p92341, p92342, p92343, p92344, p92345⟩ := p92335
      subst e92336
      subst e92337
      have f92346 := f92208.tr f92339 rfl
      show wp _ _ 199 43 [(1, vI z92206), (0, .ref r0)] [] _ H92334 _
      refine wp_of e199 c199_43 (rw_aload_n (pc' := 44) (v := .ref r0) rfl rfl rfl ?_)
      refine wp_of e199 c199_44 (xc_V (pc' := 47) (r := r0) (as := []) (st := []) (lm_9_118) rfl rfl (Nat.le_of_ble_eq_true rfl) w92338 g0 sh_42 (by decide) rfl (by decide) (s_172 w92338 g0 (by omega)) (fun R92347 T92348 H92349 p92350 => ?_))
      obtain ⟨e92351, w92353, f92354, e92352, p92355, p92356, p92357, p92358, p92359, p92360⟩ := p92350
      subst e92351
      subst e92352
      have f92361 := f92346.tr f92354 rfl
      show wp _ _ 199 47 [(1, vI z92206), (0, .ref r0)] [] _ H92349 _
      refine wp_of e199 c199_47 (rw_aload_n (pc' := 48) (v := .ref r0) rfl rfl rfl ?_)
      refine wp_of e199 c199_48 (rw_ldc_wS (pc' := 51) (k := 89) rfl rfl rfl rfl ?_)
      refine wp_of e199 c199_51 (rw_iconst (pc' := 52) rfl ?_)
      refine wp_of e199 c199_52 (rw_bipush (pc' := 54) (z := 99) rfl (by decide) ?_)
      refine wp_of e199 c199_54 (xc_V (pc' := 57) (r := r0) (as := [.ref 89, vI 0, vI 99]) (st := []) (lm_9_216) rfl rfl (Nat.le_of_ble_eq_true rfl) w92353 g0 sh_42 (by decide) rfl (by decide) (s_182 w92353 g0 rfl ⟨by omega, by omega⟩ ⟨by omega, by omega⟩ (by omega)) (fun R92362 T92363 H92364 p92365 => ?_))
      obtain ⟨e92366, w92368, f92369, z92375, e92367, b92376, p92370, p92371, p92372, p92373, p92374⟩ := p92365
      subst e92366
      subst e92367
      have f92377 := f92361.tr f92369 rfl
      show wp _ _ 199 57 [(1, vI z92206), (0, .ref r0)] [vI z92375] _ H92364 _
      refine wp_of e199 c199_57 (rw_istore_n (pc' := 58) (z := z92375) (L' := [(2, vI z92375), (1, vI z92206), (0, .ref r0)]) rfl rfl rfl ?_)
      refine wp_of e199 c199_58 (rw_aload_n (pc' := 59) (v := .ref r0) rfl rfl rfl ?_)
      refine wp_of e199 c199_59 (xg_I (pc' := 62) lf_9_75 w92368 g0 sh_42 (by decide) (by decide) ty_42_9 rfl rfl (fun b92378 b92379 => ?_))
      have k92380 := wOV_e (H := H92364) (m := r0)
      refine wp_of e199 c199_62 (rw_iconst (pc' := 63) rfl ?_)
      refine wp_of e199 c199_63 (rw_icmp_ne (p1 := 67) (p2 := 66) (by decide) rfl ⟨by omega, by omega⟩ ⟨by omega, by omega⟩ (fun c92381 => ?_) (fun c92381 => ?_))
      · refine wp_of e199 c199_67 (rw_aload_n (pc' := 68) (v := .ref r0) rfl rfl rfl ?_)
        have k92382 : H92364 r0 4 = H92195 r0 4 := ((f92369 r0 4 _ g0 rfl).trans ((f92354 r0 4 _ g0 rfl).trans (f92339 r0 4 _ g0 rfl)))
        have q92383 : H92364 r0 4 = (rp : Int) := k92382.trans q92270
        refine wp_of e199 c199_68 (xg_K (pc' := 71) lf_9_166 w92368 g0 sh_42 (by decide) (by decide) rfl q92383 rfl ?_)
        have k92384 : H92364 rp 21 = H92195 rp 21 := ((f92369 rp 21 _ grp rfl).trans ((f92354 rp 21 _ grp rfl).trans (f92339 rp 21 _ grp rfl)))
        have q92385 : H92364 rp 21 = (r92271 : Int) := k92384.trans q92272
        refine wp_of e199 c199_71 (xg_K (pc' := 74) lf_9_296 w92368 grp sh_54 (by decide) (by decide) rfl q92385 rfl ?_)
        refine wp_of e199 c199_74 (rw_iload_n (pc' := 75) (z := z92206) rfl rfl ?_)
        refine wp_of e199 c199_75 (rw_iload_n (pc' := 76) (z := z92375) rfl rfl ?_)
        refine wp_of e199 c199_76 (rw_iconst (pc' := 77) rfl ?_)
        refine wp_of e199 c199_77 (rw_iadd (pc' := 78) rfl ?_)
        refine wp_of e199 c199_78 (xs_I (pc' := 79) w92368 g92273 (by decide) sh_67 (by decide) (ty_67 _) (by omega) (by omega) ⟨by omega, by omega⟩ (by omega) (by omega) rfl (fun H92386 e92387 w92388 => ?_))
        have f92389 := f92377.put' e92387 g92273 rfl
        refine wp_of e199 c199_79 (rw_aload_n (pc' := 80) (v := .ref r0) rfl rfl rfl ?_)
        refine wp_of e199 c199_80 (rw_dup (pc' := 81) rfl rfl ?_)
        have k92390 : H92386 r0 16 = H r0 16 := ((wq_u_t e92387 g92273 g0 rfl 16).trans ((f92369 r0 16 _ g0 rfl).trans ((f92354 r0 16 _ g0 rfl).trans ((f92339 r0 16 _ g0 rfl).trans ((f92200 r0 16 _ g0 rfl).trans (f92186 r0 16 _ g0 rfl))))))
        refine wp_of e199 c199_81 (xg_I (pc' := 84) lf_9_293 w92388 g0 sh_42 (by decide) (by decide) ty_42_16 rfl rfl (fun b92391 b92392 => ?_))
        refine wp_of e199 c199_84 (rw_iconst (pc' := 85) rfl ?_)
        refine wp_of e199 c199_85 (rw_iadd (pc' := 86) rfl ?_)
        refine wp_of e199 c199_86 (xp_I (pc' := 89) lf_9_293 w92388 g0 sh_42 (by decide) (by decide) ty_42_16 rfl rfl (by omega) (by omega) ⟨by omega, by omega⟩ rfl (fun H92393 e92394 w92395 => ?_))
        have f92396 := f92389.put' e92394 g0 rfl
        have k92397 : H92393 r0 16 = (H92386 r0 16) + 1 := wq_u_s e92394
        have k92398 : H92393 r0 9 = H92364 r0 9 := ((wq_u_j e92394 rfl).trans (wq_u_t e92387 g92273 g0 rfl 9))
        have k92399 : H92393 r0 10 = H92364 r0 10 := ((wq_u_j e92394 rfl).trans (wq_u_t e92387 g92273 g0 rfl 10))
        have k92400 : wOV H92393 r0 = wOV H92364 r0 := ((wOV_fr w92388 g0 ((wfr.rf (l := [(42, 16)])).put' e92394 g0 rfl) rfl).trans (wOV_fr w92368 g0 ((wfr.rf (l := [(67, 999)])).put' e92387 g92273 rfl) rfl))
        have k92401 : wJ H92393 r0 = wJ H92364 r0 := ((wJ_fr w92388 g0 ((wfr.rf (l := [(42, 16)])).put' e92394 g0 rfl) rfl).trans (wJ_fr w92368 g0 ((wfr.rf (l := [(67, 999)])).put' e92387 g92273 rfl) rfl))
        exact wp_return e199 c199_89 rfl ⟨rfl, w92395, f92396, rfl, by omega, by omega, by omega, by omega⟩
      · exact wp_return e199 c199_66 rfl ⟨rfl, w92368, f92377, rfl, by omega, by omega, by omega, by omega⟩
