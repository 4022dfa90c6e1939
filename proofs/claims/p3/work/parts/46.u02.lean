/-! what methods do (own work, written by wip/gen3/sx3.py) -/
/-! StrikeAwakeModel.readLaw()V o -/
abbrev uq_180_o (r0 : Nat) (rp : Nat) (rb : Nat) (fo : Int) (po : Int) (T : wq_T) (H : wq_H) : Option Value → wq_T → wq_H → Prop := fun r T' H' => T = T' ∧ WT T H' ∧ wfr [(54, 1), (54, 2)] T H H' ∧ none = r ∧ ((RO T H' r0 fo po))
set_option maxHeartbeats 4000000 in
theorem u_180_o {kt : Nat → Option mc_E} {T : wq_T} {H : wq_H} {r0 : Nat} {rp : Nat} {rb : Nat} {fo : Int} {po : Int} (hW : WT T H) (g0 : T.2.2.2 r0 = some 42) (qrp : H r0 4 = (rp : Int)) (grp : T.2.2.2 rp = some 54) (qrb : H r0 5 = (rb : Int)) (grb : T.2.2.2 rb = some 43) (hRO_r0 : RO T H r0 fo po) : wpc kt 5 180 [.ref r0] T H (uq_180_o r0 rp rb fo po T H) := by
  refine wp_enter e180 (Nat.le_of_ble_eq_true rfl) rfl ?_
  have f0 : wfr [(54, 1), (54, 2)] T H H := wfr.rf
  show wp _ _ 180 0 [(0, .ref r0)] [] _ H _
  have u256280 := RO_k hRO_r0
  refine wp_of e180 c180_0 (rw_aload_n (pc' := 1) (v := .ref r0) rfl rfl rfl ?_)
  refine wp_of e180 c180_1 (xg_K (pc' := 4) lf_9_166 hW g0 sh_42 (by decide) (by decide) rfl qrp rfl ?_)
  refine wp_of e180 c180_4 (xg_I (pc' := 7) lf_9_185 hW grp sh_54 (by decide) (by decide) ty_54_0 rfl rfl (fun b256281 b256282 => ?_))
  refine wp_of e180 c180_7 (rw_if_le (p1 := 15) (p2 := 10) (by decide) rfl ⟨by omega, by omega⟩ (fun c256283 => ?_) (fun c256283 => ?_))
  · refine wp_of e180 c180_15 (rw_aload_n (pc' := 16) (v := .ref r0) rfl rfl rfl ?_)
    refine wp_of e180 c180_16 (xc_V (pc' := 19) (r := r0) (as := []) (st := []) (lm_9_118) rfl rfl (Nat.le_of_ble_eq_true rfl) hW g0 sh_42 (by decide) rfl (by decide) (u_172_o (fo := fo) (po := po) hW g0 hRO_r0) (fun R256284 T256285 H256286 p256287 => ?_))
    obtain ⟨e256288, e256290, e256289, p256291⟩ := p256287
    subst e256288
    subst e256289
    subst e256290
    show wp _ _ 180 19 [(0, .ref r0)] [] _ H _
    have u256293 := RO_k p256291
    refine wp_of e180 c180_19 (rw_aload_n (pc' := 20) (v := .ref r0) rfl rfl rfl ?_)
    refine wp_of e180 c180_20 (rw_ldcS (pc' := 22) (k := 73) rfl rfl rfl rfl ?_)
    refine wp_of e180 c180_22 (rw_iconst (pc' := 23) rfl ?_)
    refine wp_of e180 c180_23 (rw_bipush (pc' := 25) (z := 24) rfl (by decide) ?_)
    refine wp_of e180 c180_25 (xc_V (pc' := 28) (r := r0) (as := [.ref 73, vI 1, vI 24]) (st := []) (lm_9_216) rfl rfl (Nat.le_of_ble_eq_true rfl) hW g0 sh_42 (by decide) rfl (by decide) (u_182_o (fo := fo) (po := po) (kk := 8902227) hW g0 rfl ⟨by omega, by omega⟩ ⟨by omega, by omega⟩ qrb grb (by decide +kernel) p256291) (fun R256294 T256295 H256296 p256297 => ?_))
    obtain ⟨e256298, e256300, z256301, e256299, b256302, p256303⟩ := p256297
    subst e256298
    subst e256299
    subst e256300
    obtain ⟨a256304, a256305⟩ := p256303
    show wp _ _ 180 28 [(0, .ref r0)] [vI z256301] _ H _
    have u256306 := RO_k a256305
    refine wp_of e180 c180_28 (rw_istore_n (pc' := 29) (z := z256301) (L' := [(1, vI z256301), (0, .ref r0)]) rfl rfl rfl ?_)
    refine wp_of e180 c180_29 (rw_aload_n (pc' := 30) (v := .ref r0) rfl rfl rfl ?_)
    refine wp_of e180 c180_30 (xg_K (pc' := 33) lf_9_166 hW g0 sh_42 (by decide) (by decide) rfl qrp rfl ?_)
    refine wp_of e180 c180_33 (rw_aload_n (pc' := 34) (v := .ref r0) rfl rfl rfl ?_)
    refine wp_of e180 c180_34 (rw_ldcS (pc' := 36) (k := 74) rfl rfl rfl rfl ?_)
    refine wp_of e180 c180_36 (rw_iconst (pc' := 37) rfl ?_)
    refine wp_of e180 c180_37 (rw_bipush (pc' := 39) (z := 9) rfl (by decide) ?_)
    refine wp_of e180 c180_39 (xc_V (pc' := 42) (r := r0) (as := [.ref 74, vI 0, vI 9]) (st := [.ref rp]) (lm_9_216) rfl rfl (Nat.le_of_ble_eq_true rfl) hW g0 sh_42 (by decide) rfl (by decide) (u_182_o (fo := fo) (po := po) (kk := 72983685) hW g0 rfl ⟨by omega, by omega⟩ ⟨by omega, by omega⟩ qrb grb (by decide +kernel) a256305) (fun R256307 T256308 H256309 p256310 => ?_))
    obtain ⟨e256311, e256313, z256314, e256312, b256315, p256316⟩ := p256310
    subst e256311
    subst e256312
    subst e256313
    obtain ⟨a256317, a256318⟩ := p256316
    show wp _ _ 180 42 [(1, vI z256301), (0, .ref r0)] [vI z256314, .ref rp] _ H _
    have u256319 := RO_k a256318
    refine wp_of e180 c180_42 (xp_I (pc' := 45) lf_9_222 hW grp sh_54 (by decide) (by decide) ty_54_1 rfl rfl (by omega) (by omega) ⟨by omega, by omega⟩ rfl (fun H256320 e256321 w256322 => ?_))
    have f256323 := f0.put' e256321 grp rfl
    have k256324 : H256320 rp 1 = z256314 := wq_u_s e256321
    refine wp_of e180 c180_45 (rw_aload_n (pc' := 46) (v := .ref r0) rfl rfl rfl ?_)
    have k256325 : H256320 r0 4 = H r0 4 := (wq_u_t e256321 grp g0 rfl 4)
    have q256326 : H256320 r0 4 = (rp : Int) := k256325.trans qrp
    refine wp_of e180 c180_46 (xg_K (pc' := 49) lf_9_166 w256322 g0 sh_42 (by decide) (by decide) rfl q256326 rfl ?_)
    refine wp_of e180 c180_49 (rw_aload_n (pc' := 50) (v := .ref r0) rfl rfl rfl ?_)
    refine wp_of e180 c180_50 (rw_ldcS (pc' := 52) (k := 75) rfl rfl rfl rfl ?_)
    refine wp_of e180 c180_52 (rw_iconst (pc' := 53) rfl ?_)
    refine wp_of e180 c180_53 (rw_iconst (pc' := 54) rfl ?_)
    have k256327 : H256320 r0 5 = H r0 5 := (wq_u_t e256321 grp g0 rfl 5)
    have q256328 : H256320 r0 5 = (rb : Int) := k256327.trans qrb
    have h256329 : RO T H256320 r0 fo po := (RO_fr hW g0 ((wfr.rf (l := [(54, 1)])).put' e256321 grp rfl) rfl a256318)
    refine wp_of e180 c180_54 (xc_V (pc' := 57) (r := r0) (as := [.ref 75, vI 0, vI 3]) (st := [.ref rp]) (lm_9_216) rfl rfl (Nat.le_of_ble_eq_true rfl) w256322 g0 sh_42 (by decide) rfl (by decide) (u_182_o (fo := fo) (po := po) (kk := 15558) w256322 g0 rfl ⟨by omega, by omega⟩ ⟨by omega, by omega⟩ q256328 grb (by decide +kernel) h256329) (fun R256330 T256331 H256332 p256333 => ?_))
    obtain ⟨e256334, e256336, z256337, e256335, b256338, p256339⟩ := p256333
    subst e256334
    subst e256335
    subst e256336
    obtain ⟨a256340, a256341⟩ := p256339
    show wp _ _ 180 57 [(1, vI z256301), (0, .ref r0)] [vI z256337, .ref rp] _ H256320 _
    have u256342 := RO_k a256341
    refine wp_of e180 c180_57 (xp_I (pc' := 60) lf_9_226 w256322 grp sh_54 (by decide) (by decide) ty_54_2 rfl rfl (by omega) (by omega) ⟨by omega, by omega⟩ rfl (fun H256343 e256344 w256345 => ?_))
    have f256346 := f256323.put' e256344 grp rfl
    have k256347 : H256343 rp 2 = z256337 := wq_u_s e256344
    refine wp_of e180 c180_60 (rw_aload_n (pc' := 61) (v := .ref r0) rfl rfl rfl ?_)
    have k256348 : H256343 r0 9 = H256320 r0 9 := (wq_u_t e256344 grp g0 rfl 9)
    refine wp_of e180 c180_61 (xg_I (pc' := 64) lf_9_75 w256345 g0 sh_42 (by decide) (by decide) ty_42_9 rfl rfl (fun b256349 b256350 => ?_))
    refine wp_of e180 c180_64 (rw_iconst (pc' := 65) rfl ?_)
    refine wp_of e180 c180_65 (rw_icmp_eq (p1 := 76) (p2 := 68) (by decide) rfl ⟨by omega, by omega⟩ ⟨by omega, by omega⟩ (fun c256351 => ?_) (fun c256351 => ?_))
    · have h256352 : RO T H256343 r0 fo po := (RO_fr w256322 g0 ((wfr.rf (l := [(54, 2)])).put' e256344 grp rfl) rfl a256341)
      exact wp_return e180 c180_76 rfl ⟨rfl, w256345, f256346, rfl, (h256352)⟩
    · exfalso
      omega
  · refine wp_of e180 c180_10 (rw_aload_n (pc' := 11) (v := .ref r0) rfl rfl rfl ?_)
    refine wp_of e180 c180_11 (rw_iconst (pc' := 12) rfl ?_)
    refine wp_of e180 c180_12 (xc_V (pc' := 15) (r := r0) (as := [vI 3]) (st := []) (lm_9_121) rfl rfl (Nat.le_of_ble_eq_true rfl) hW g0 sh_42 (by decide) rfl (by decide) (u_181_o (fo := fo) (po := po) hW g0 ⟨by omega, by omega⟩ hRO_r0) (fun R256353 T256354 H256355 p256356 => ?_))
    obtain ⟨e256357, e256359, e256358, p256360⟩ := p256356
    subst e256357
    subst e256358
    subst e256359
    show wp _ _ 180 15 [(0, .ref r0)] [] _ H _
    have u256362 := RO_k p256360
    refine wp_of e180 c180_15 (rw_aload_n (pc' := 16) (v := .ref r0) rfl rfl rfl ?_)
    refine wp_of e180 c180_16 (xc_V (pc' := 19) (r := r0) (as := []) (st := []) (lm_9_118) rfl rfl (Nat.le_of_ble_eq_true rfl) hW g0 sh_42 (by decide) rfl (by decide) (u_172_o (fo := fo) (po := po) hW g0 p256360) (fun R256363 T256364 H256365 p256366 => ?_))
    obtain ⟨e256367, e256369, e256368, p256370⟩ := p256366
    subst e256367
    subst e256368
    subst e256369
    show wp _ _ 180 19 [(0, .ref r0)] [] _ H _
    have u256372 := RO_k p256370
    refine wp_of e180 c180_19 (rw_aload_n (pc' := 20) (v := .ref r0) rfl rfl rfl ?_)
    refine wp_of e180 c180_20 (rw_ldcS (pc' := 22) (k := 73) rfl rfl rfl rfl ?_)
    refine wp_of e180 c180_22 (rw_iconst (pc' := 23) rfl ?_)
    refine wp_of e180 c180_23 (rw_bipush (pc' := 25) (z := 24) rfl (by decide) ?_)
    refine wp_of e180 c180_25 (xc_V (pc' := 28) (r := r0) (as := [.ref 73, vI 1, vI 24]) (st := []) (lm_9_216) rfl rfl (Nat.le_of_ble_eq_true rfl) hW g0 sh_42 (by decide) rfl (by decide) (u_182_o (fo := fo) (po := po) (kk := 8902227) hW g0 rfl ⟨by omega, by omega⟩ ⟨by omega, by omega⟩ qrb grb (by decide +kernel) p256370) (fun R256373 T256374 H256375 p256376 => ?_))
    obtain ⟨e256377, e256379, z256380, e256378, b256381, p256382⟩ := p256376
    subst e256377
    subst e256378
    subst e256379
    obtain ⟨a256383, a256384⟩ := p256382
    show wp _ _ 180 28 [(0, .ref r0)] [vI z256380] _ H _
    have u256385 := RO_k a256384
    refine wp_of e180 c180_28 (rw_istore_n (pc' := 29) (z := z256380) (L' := [(1, vI z256380), (0, .ref r0)]) rfl rfl rfl ?_)
    refine wp_of e180 c180_29 (rw_aload_n (pc' := 30) (v := .ref r0) rfl rfl rfl ?_)
    refine wp_of e180 c180_30 (xg_K (pc' := 33) lf_9_166 hW g0 sh_42 (by decide) (by decide) rfl qrp rfl ?_)
    refine wp_of e180 c180_33 (rw_aload_n (pc' := 34) (v := .ref r0) rfl rfl rfl ?_)
    refine wp_of e180 c180_34 (rw_ldcS (pc' := 36) (k := 74) rfl rfl rfl rfl ?_)
    refine wp_of e180 c180_36 (rw_iconst (pc' := 37) rfl ?_)
    refine wp_of e180 c180_37 (rw_bipush (pc' := 39) (z := 9) rfl (by decide) ?_)
    refine wp_of e180 c180_39 (xc_V (pc' := 42) (r := r0) (as := [.ref 74, vI 0, vI 9]) (st := [.ref rp]) (lm_9_216) rfl rfl (Nat.le_of_ble_eq_true rfl) hW g0 sh_42 (by decide) rfl (by decide) (u_182_o (fo := fo) (po := po) (kk := 72983685) hW g0 rfl ⟨by omega, by omega⟩ ⟨by omega, by omega⟩ qrb grb (by decide +kernel) a256384) (fun R256386 T256387 H256388 p256389 => ?_))
    obtain ⟨e256390, e256392, z256393, e256391, b256394, p256395⟩ := p256389
    subst e256390
    subst e256391
    subst e256392
    obtain ⟨a256396, a256397⟩ := p256395
    show wp _ _ 180 42 [(1, vI z256380), (0, .ref r0)] [vI z256393, .ref rp] _ H _
    have u256398 := RO_k a256397
    refine wp_of e180 c180_42 (xp_I (pc' := 45) lf_9_222 hW grp sh_54 (by decide) (by decide) ty_54_1 rfl rfl (by omega) (by omega) ⟨by omega, by omega⟩ rfl (fun H256399 e256400 w256401 => ?_))
    have f256402 := f0.put' e256400 grp rfl
    have k256403 : H256399 rp 1 = z256393 := wq_u_s e256400
    refine wp_of e180 c180_45 (rw_aload_n (pc' := 46) (v := .ref r0) rfl rfl rfl ?_)
    have k256404 : H256399 r0 4 = H r0 4 := (wq_u_t e256400 grp g0 rfl 4)
    have q256405 : H256399 r0 4 = (rp : Int) := k256404.trans qrp
    refine wp_of e180 c180_46 (xg_K (pc' := 49) lf_9_166 w256401 g0 sh_42 (by decide) (by decide) rfl q256405 rfl ?_)
    refine wp_of e180 c180_49 (rw_aload_n (pc' := 50) (v := .ref r0) rfl rfl rfl ?_)
    refine wp_of e180 c180_50 (rw_ldcS (pc' := 52) (k := 75) rfl rfl rfl rfl ?_)
    refine wp_of e180 c180_52 (rw_iconst (pc' := 53) rfl ?_)
    refine wp_of e180 c180_53 (rw_iconst (pc' := 54) rfl ?_)
    have k256406 : H256399 r0 5 = H r0 5 := (wq_u_t e256400 grp g0 rfl 5)
    have q256407 : H256399 r0 5 = (rb : Int) := k256406.trans qrb
    have h256408 : RO T H256399 r0 fo po := (RO_fr hW g0 ((wfr.rf (l := [(54, 1)])).put' e256400 grp rfl) rfl a256397)
    refine wp_of e180 c180_54 (xc_V (pc' := 57) (r := r0) (as := [.ref 75, vI 0, vI 3]) (st := [.ref rp]) (lm_9_216) rfl rfl (Nat.le_of_ble_eq_true rfl) w256401 g0 sh_42 (by decide) rfl (by decide) (u_182_o (fo := fo) (po := po) (kk := 15558) w256401 g0 rfl ⟨by omega, by omega⟩ ⟨by omega, by omega⟩ q256407 grb (by decide +kernel) h256408) (fun R256409 T256410 H256411 p256412 => ?_))
    obtain ⟨e256413, e256415, z256416, e256414, b256417, p256418⟩ := p256412
    subst e256413
    subst e256414
    subst e256415
    obtain ⟨a256419, a256420⟩ := p256418
    show wp _ _ 180 57 [(1, vI z256380), (0, .ref r0)] [vI z256416, .ref rp] _ H256399 _
    have u256421 := RO_k a256420
    refine wp_of e180 c180_57 (xp_I (pc' := 60) lf_9_226 w256401 grp sh_54 (by decide) (by decide) ty_54_2 rfl rfl (by omega) (by omega) ⟨by omega, by omega⟩ rfl (fun H256422 e256423 w256424 => ?_))
    have f256425 := f256402.put' e256423 grp rfl
    have k256426 : H256422 rp 2 = z256416 := wq_u_s e256423
    refine wp_of e180 c180_60 (rw_aload_n (pc' := 61) (v := .ref r0) rfl rfl rfl ?_)
    have k256427 : H256422 r0 9 = H256399 r0 9 := (wq_u_t e256423 grp g0 rfl 9)
    refine wp_of e180 c180_61 (xg_I (pc' := 64) lf_9_75 w256424 g0 sh_42 (by decide) (by decide) ty_42_9 rfl rfl (fun b256428 b256429 => ?_))
    refine wp_of e180 c180_64 (rw_iconst (pc' := 65) rfl ?_)
    refine wp_of e180 c180_65 (rw_icmp_eq (p1 := 76) (p2 := 68) (by decide) rfl ⟨by omega, by omega⟩ ⟨by omega, by omega⟩ (fun c256430 => ?_) (fun c256430 => ?_))
    · have h256431 : RO T H256422 r0 fo po := (RO_fr w256401 g0 ((wfr.rf (l := [(54, 2)])).put' e256423 grp rfl) rfl a256420)
      exact wp_return e180 c180_76 rfl ⟨rfl, w256424, f256425, rfl, (h256431)⟩
    · exfalso
      omega
/-! StrikeAwakeModel.readSexton()V k -/
abbrev uq_193_k (r0 : Nat) (rp : Nat) (rb : Nat) (B : Nat → Int) (n : Int) (q : Int) (d : xD) (T : wq_T) (H : wq_H) : Option Value → wq_T → wq_H → Prop := fun r T' H' => T = T' ∧ WT T H' ∧ wfr [(54, 8), (42, 8), (42, 9), (42, 10), (42, 11), (42, 12), (42, 13), (42, 14), (42, 15)] T H H' ∧ none = r ∧ ((((xl2 B n q d).1 = 0) ∧ ((xl2 B n q d).2.2 = (xN B n (xN B n q))) ∧ (q ≤ (xN B n (xN B n q))) ∧ RC T H' r0 B n (xN B n (xN B n q)) ∧ DM T H' rp r0 (xdsex B n (xN B n q) d)) ∨ (((xl2 B n q d).1 ≠ 0) ∧ RO T H' r0 ((xl2 B n q d).1) ((xl2 B n q d).2.1)))
set_option maxHeartbeats 4000000 in
theorem u_193_k {kt : Nat → Option mc_E} {T : wq_T} {H : wq_H} {r0 : Nat} {rp : Nat} {rb : Nat} {B : Nat → Int} {n : Int} {q : Int} {d : xD} (hW : WT T H) (g0 : T.2.2.2 r0 = some 42) (qrp : H r0 4 = (rp : Int)) (grp : T.2.2.2 rp = some 54) (qrb : H r0 5 = (rb : Int)) (grb : T.2.2.2 rb = some 43) (p0 : xK B n q = 1) (hRC_r0 : RC T H r0 B n q) (hDM_rp : DM T H rp r0 d) : wpc kt 6 193 [.ref r0] T H (uq_193_k r0 rp rb B n q d T H) := by
  refine wp_enter e193 (Nat.le_of_ble_eq_true rfl) rfl ?_
  have f0 : wfr [(54, 8), (42, 8), (42, 9), (42, 10), (42, 11), (42, 12), (42, 13), (42, 14), (42, 15)] T H H := wfr.rf
  show wp _ _ 193 0 [(0, .ref r0)] [] _ H _
  have u256540 := RC_k hRC_r0
  have u256541 := DM_k hDM_rp
  have h256542 : MA9 T H rp (d 1) := hDM_rp.2.2.2.1
  have h256543 : MA10 T H rp (d 2) := hDM_rp.2.2.2.2.1
  have h256544 : MA11 T H rp (d 3) := hDM_rp.2.2.2.2.2.1
  have h256545 : MA12 T H rp (d 4) := hDM_rp.2.2.2.2.2.2.1
  have h256546 : MA13 T H rp (d 5) := hDM_rp.2.2.2.2.2.2.2.1
  have h256547 : MA14 T H rp (d 6) := hDM_rp.2.2.2.2.2.2.2.2.1
  have h256548 : MA15 T H rp (d 7) := hDM_rp.2.2.2.2.2.2.2.2.2.1
  have h256549 : MA16 T H rp (d 8) := hDM_rp.2.2.2.2.2.2.2.2.2.2.1
  have h256550 : MA17 T H rp (d 9) := hDM_rp.2.2.2.2.2.2.2.2.2.2.2.1
  have h256551 : MA18 T H rp (d 10) := hDM_rp.2.2.2.2.2.2.2.2.2.2.2.2.1
  have h256552 : MA19 T H rp (d 11) := hDM_rp.2.2.2.2.2.2.2.2.2.2.2.2.2.1
  have h256553 : MA20 T H rp (d 12) := hDM_rp.2.2.2.2.2.2.2.2.2.2.2.2.2.2.1
  have h256554 : MA21 T H rp (d 13) := hDM_rp.2.2.2.2.2.2.2.2.2.2.2.2.2.2.2.1
  have h256555 : MA22 T H rp (d 14) := hDM_rp.2.2.2.2.2.2.2.2.2.2.2.2.2.2.2.2.1
  have h256556 : MA23 T H rp (d 15) := hDM_rp.2.2.2.2.2.2.2.2.2.2.2.2.2.2.2.2.2.1
  have h256557 : MA25 T H rp (d 17) := hDM_rp.2.2.2.2.2.2.2.2.2.2.2.2.2.2.2.2.2.2.1
  have h256558 : MA26 T H rp (d 16) := hDM_rp.2.2.2.2.2.2.2.2.2.2.2.2.2.2.2.2.2.2.2
  refine wp_of e193 c193_0 (rw_aload_n (pc' := 1) (v := .ref r0) rfl rfl rfl ?_)
  refine wp_of e193 c193_1 (xg_K (pc' := 4) lf_9_166 hW g0 sh_42 (by decide) (by decide) rfl qrp rfl ?_)
  refine wp_of e193 c193_4 (xg_I (pc' := 7) lf_9_271 hW grp sh_54 (by decide) (by decide) ty_54_8 rfl rfl (fun b256559 b256560 => ?_))
  refine wp_of e193 c193_7 (rw_iconst (pc' := 8) rfl ?_)
  refine wp_of e193 c193_8 (rw_icmp_eq (p1 := 16) (p2 := 11) (by decide) rfl ⟨by omega, by omega⟩ ⟨by omega, by omega⟩ (fun c256561 => ?_) (fun c256561 => ?_))
  · refine wp_of e193 c193_16 (rw_aload_n (pc' := 17) (v := .ref r0) rfl rfl rfl ?_)
    have u256562 := RC_a hRC_r0
    have h256563 : TM T H rb B := RC_tm hRC_r0 qrb
    refine wp_of e193 c193_17 (xc_V (pc' := 20) (r := r0) (as := []) (st := []) (lm_9_118) rfl rfl (Nat.le_of_ble_eq_true rfl) hW g0 sh_42 (by decide) rfl (by decide) (u_172_k (B := B) (n := n) (a := (xE B n q)) (q := (xN B n q)) hW g0 qrb grb (by omega) (by omega) (by omega) (by omega) (by omega) (rfl) h256563) (fun R256564 T256565 H256566 p256567 => ?_))
    obtain ⟨e256568, w256570, f256571, e256569, p256572⟩ := p256567
    subst e256568
    subst e256569
    have f256574 := f0.tr f256571 rfl
    show wp _ _ 193 20 [(0, .ref r0)] [] _ H256566 _
    have u256575 := RC_k p256572
    refine wp_of e193 c193_20 (rw_aload_n (pc' := 21) (v := .ref r0) rfl rfl rfl ?_)
    have k256576 : H256566 r0 4 = H r0 4 := (f256571 r0 4 _ g0 rfl)
    have q256577 : H256566 r0 4 = (rp : Int) := k256576.trans qrp
    have k256578 : H256566 r0 5 = H r0 5 := (f256571 r0 5 _ g0 rfl)
    have q256579 : H256566 r0 5 = (rb : Int) := k256578.trans qrb
    have h256580 : DM T H256566 rp r0 d := (DM_fr hW grp f256571 rfl hDM_rp)
    refine wp_of e193 c193_21 (xc_V (pc' := 24) (r := r0) (as := []) (st := []) (lm_9_273) rfl rfl (Nat.le_of_ble_eq_true rfl) w256570 g0 sh_42 (by decide) rfl (by decide) (u_194_k (B := B) (n := n) (q := ((xN B n q))) (d := d) w256570 g0 q256577 grp q256579 grb p256572 h256580) (fun R256581 T256582 H256583 p256584 => ?_))
    obtain ⟨e256585, w256587, f256588, z256589, e256586, b256590, p256591⟩ := p256584
    subst e256585
    subst e256586
    rcases p256591 with ⟨a256592, a256593, a256594, a256595, a256596⟩ | ⟨a256597, a256598, a256599⟩
    · have f256600 := f256574.tr f256588 rfl
      show wp _ _ 193 24 [(0, .ref r0)] [vI z256589] _ H256583 _
      have u256601 := RC_k a256596
      refine wp_of e193 c193_24 (rw_istore_n (pc' := 25) (z := z256589) (L' := [(1, vI z256589), (0, .ref r0)]) rfl rfl rfl ?_)
      refine wp_of e193 c193_25 (rw_aload_n (pc' := 26) (v := .ref r0) rfl rfl rfl ?_)
      refine wp_of e193 c193_26 (xg_I (pc' := 29) lf_9_75 w256587 g0 sh_42 (by decide) (by decide) ty_42_9 rfl rfl (fun b256602 b256603 => ?_))
      refine wp_of e193 c193_29 (rw_iconst (pc' := 30) rfl ?_)
      refine wp_of e193 c193_30 (rw_icmp_eq (p1 := 41) (p2 := 33) (by decide) rfl ⟨by omega, by omega⟩ ⟨by omega, by omega⟩ (fun c256604 => ?_) (fun c256604 => ?_))
      · exfalso
        omega
      · refine wp_of e193 c193_33 (rw_aload_n (pc' := 34) (v := .ref r0) rfl rfl rfl ?_)
        have k256605 : H256583 r0 4 = H256566 r0 4 := (f256588 r0 4 _ g0 rfl)
        have q256606 : H256583 r0 4 = (rp : Int) := k256605.trans q256577
        refine wp_of e193 c193_34 (xg_K (pc' := 37) lf_9_166 w256587 g0 sh_42 (by decide) (by decide) rfl q256606 rfl ?_)
        refine wp_of e193 c193_37 (rw_iload_n (pc' := 38) (z := z256589) rfl rfl ?_)
        refine wp_of e193 c193_38 (xp_I (pc' := 41) lf_9_271 w256587 grp sh_54 (by decide) (by decide) ty_54_8 rfl rfl (by omega) (by omega) ⟨by omega, by omega⟩ rfl (fun H256607 e256608 w256609 => ?_))
        have f256610 := f256600.put' e256608 grp rfl
        have k256611 : H256607 rp 8 = z256589 := wq_u_s e256608
        have k256612 : H256607 rp 0 = H rp 0 := ((wq_u_j e256608 rfl).trans ((f256588 rp 0 _ grp rfl).trans (f256571 rp 0 _ grp rfl)))
        have k256613 : H256607 rp 1 = H rp 1 := ((wq_u_j e256608 rfl).trans ((f256588 rp 1 _ grp rfl).trans (f256571 rp 1 _ grp rfl)))
        have k256614 : H256607 rp 2 = H rp 2 := ((wq_u_j e256608 rfl).trans ((f256588 rp 2 _ grp rfl).trans (f256571 rp 2 _ grp rfl)))
        have k256615 : H256607 rp 3 = H rp 3 := ((wq_u_j e256608 rfl).trans ((f256588 rp 3 _ grp rfl).trans (f256571 rp 3 _ grp rfl)))
        have k256616 : H256607 rp 4 = H rp 4 := ((wq_u_j e256608 rfl).trans ((f256588 rp 4 _ grp rfl).trans (f256571 rp 4 _ grp rfl)))
        have k256617 : H256607 rp 5 = H rp 5 := ((wq_u_j e256608 rfl).trans ((f256588 rp 5 _ grp rfl).trans (f256571 rp 5 _ grp rfl)))
        have k256618 : H256607 rp 6 = H rp 6 := ((wq_u_j e256608 rfl).trans ((f256588 rp 6 _ grp rfl).trans (f256571 rp 6 _ grp rfl)))
        have k256619 : H256607 rp 7 = H rp 7 := ((wq_u_j e256608 rfl).trans ((f256588 rp 7 _ grp rfl).trans (f256571 rp 7 _ grp rfl)))
        have k256620 : H256607 r0 16 = H r0 16 := ((wq_u_t e256608 grp g0 rfl 16).trans ((f256588 r0 16 _ g0 rfl).trans (f256571 r0 16 _ g0 rfl)))
        have o256621 : (xl2 B n q d) = (0, (xN B n q), (xN B n ((xN B n q)))) := by
          unfold xl2 xsex
          repeat first | rw [xs_0 (by omega)] | rw [xs_1 (by omega)] | rw [if_pos (by omega)] | rw [if_neg (by omega)]
          first | done | rfl | assumption | (exfalso; omega) | (refine Prod.ext ?_ (Prod.ext ?_ ?_) <;> (try dsimp only) <;> omega)
        have o256621a : ((xl2 B n q d)).1 = 0 := by rw [o256621]
        have o256621b : ((xl2 B n q d)).2.1 = (xN B n q) := by rw [o256621]
        have o256621c : ((xl2 B n q d)).2.2 = (xN B n ((xN B n q))) := by rw [o256621]
        have _l := @xdsex_v B n (xN B n q) d
        have _w := @xwho_e d B n (xN B n q)
        have h256622 : RC T H256607 r0 B n (xN B n ((xN B n q))) := (RC_fr w256587 g0 ((wfr.rf (l := [(54, 8)])).put' e256608 grp rfl) rfl a256596)
        have h256623 : MA9 T H256607 rp (d 1) := (MA9_fr w256587 grp ((wfr.rf (l := [(54, 8)])).put' e256608 grp rfl) rfl (MA9_fr w256570 grp f256588 rfl (MA9_fr hW grp f256571 rfl h256542)))
        have h256624 : MA10 T H256607 rp (d 2) := (MA10_fr w256587 grp ((wfr.rf (l := [(54, 8)])).put' e256608 grp rfl) rfl (MA10_fr w256570 grp f256588 rfl (MA10_fr hW grp f256571 rfl h256543)))
        have h256625 : MA11 T H256607 rp (d 3) := (MA11_fr w256587 grp ((wfr.rf (l := [(54, 8)])).put' e256608 grp rfl) rfl (MA11_fr w256570 grp f256588 rfl (MA11_fr hW grp f256571 rfl h256544)))
        have h256626 : MA12 T H256607 rp (d 4) := (MA12_fr w256587 grp ((wfr.rf (l := [(54, 8)])).put' e256608 grp rfl) rfl (MA12_fr w256570 grp f256588 rfl (MA12_fr hW grp f256571 rfl h256545)))
        have h256627 : MA13 T H256607 rp (d 5) := (MA13_fr w256587 grp ((wfr.rf (l := [(54, 8)])).put' e256608 grp rfl) rfl (MA13_fr w256570 grp f256588 rfl (MA13_fr hW grp f256571 rfl h256546)))
        have h256628 : MA14 T H256607 rp (d 6) := (MA14_fr w256587 grp ((wfr.rf (l := [(54, 8)])).put' e256608 grp rfl) rfl (MA14_fr w256570 grp f256588 rfl (MA14_fr hW grp f256571 rfl h256547)))
        have h256629 : MA15 T H256607 rp (d 7) := (MA15_fr w256587 grp ((wfr.rf (l := [(54, 8)])).put' e256608 grp rfl) rfl (MA15_fr w256570 grp f256588 rfl (MA15_fr hW grp f256571 rfl h256548)))
        have h256630 : MA16 T H256607 rp (d 8) := (MA16_fr w256587 grp ((wfr.rf (l := [(54, 8)])).put' e256608 grp rfl) rfl (MA16_fr w256570 grp f256588 rfl (MA16_fr hW grp f256571 rfl h256549)))
        have h256631 : MA17 T H256607 rp (d 9) := (MA17_fr w256587 grp ((wfr.rf (l := [(54, 8)])).put' e256608 grp rfl) rfl (MA17_fr w256570 grp f256588 rfl (MA17_fr hW grp f256571 rfl h256550)))
        have h256632 : MA18 T H256607 rp (d 10) := (MA18_fr w256587 grp ((wfr.rf (l := [(54, 8)])).put' e256608 grp rfl) rfl (MA18_fr w256570 grp f256588 rfl (MA18_fr hW grp f256571 rfl h256551)))
        have h256633 : MA19 T H256607 rp (d 11) := (MA19_fr w256587 grp ((wfr.rf (l := [(54, 8)])).put' e256608 grp rfl) rfl (MA19_fr w256570 grp f256588 rfl (MA19_fr hW grp f256571 rfl h256552)))
        have h256634 : MA20 T H256607 rp (d 12) := (MA20_fr w256587 grp ((wfr.rf (l := [(54, 8)])).put' e256608 grp rfl) rfl (MA20_fr w256570 grp f256588 rfl (MA20_fr hW grp f256571 rfl h256553)))
        have h256635 : MA21 T H256607 rp (d 13) := (MA21_fr w256587 grp ((wfr.rf (l := [(54, 8)])).put' e256608 grp rfl) rfl (MA21_fr w256570 grp f256588 rfl (MA21_fr hW grp f256571 rfl h256554)))
        have h256636 : MA22 T H256607 rp (d 14) := (MA22_fr w256587 grp ((wfr.rf (l := [(54, 8)])).put' e256608 grp rfl) rfl (MA22_fr w256570 grp f256588 rfl (MA22_fr hW grp f256571 rfl h256555)))
        have h256637 : MA23 T H256607 rp (d 15) := (MA23_fr w256587 grp ((wfr.rf (l := [(54, 8)])).put' e256608 grp rfl) rfl (MA23_fr w256570 grp f256588 rfl (MA23_fr hW grp f256571 rfl h256556)))
        have h256638 : MA25 T H256607 rp (d 17) := (MA25_fr w256587 grp ((wfr.rf (l := [(54, 8)])).put' e256608 grp rfl) rfl (MA25_fr w256570 grp f256588 rfl (MA25_fr hW grp f256571 rfl h256557)))
        have h256639 : MA26 T H256607 rp (d 16) := (MA26_fr w256587 grp ((wfr.rf (l := [(54, 8)])).put' e256608 grp rfl) rfl (MA26_fr w256570 grp f256588 rfl (MA26_fr hW grp f256571 rfl h256558)))
        exact wp_return e193 c193_41 rfl ⟨rfl, w256609, f256610, rfl, (Or.inl ⟨by omega, by omega, by omega, h256622, DM_mk hDM_rp.1 ⟨by omega, by omega, by omega, by omega, by omega, by omega, by omega, by omega, by omega, by omega, by omega, by omega⟩ (xdP_cg hDM_rp.2.2.1 (fun i h1 h2 => by unfold xdsex; rw [wq_u_row (by omega)])) h256623 h256624 h256625 h256626 h256627 h256628 h256629 h256630 h256631 h256632 h256633 h256634 h256635 h256636 h256637 h256638 h256639 ⟨(by unfold xdsex; rw [wq_u_row (by decide)]), (by unfold xdsex; rw [wq_u_row (by decide)]), (by unfold xdsex; rw [wq_u_row (by decide)]), (by unfold xdsex; rw [wq_u_row (by decide)]), (by unfold xdsex; rw [wq_u_row (by decide)]), (by unfold xdsex; rw [wq_u_row (by decide)]), (by unfold xdsex; rw [wq_u_row (by decide)]), (by unfold xdsex; rw [wq_u_row (by decide)]), (by unfold xdsex; rw [wq_u_row (by decide)]), (by unfold xdsex; rw [wq_u_row (by decide)]), (by unfold xdsex; rw [wq_u_row (by decide)]), (by unfold xdsex; rw [wq_u_row (by decide)]), (by unfold xdsex; rw [wq_u_row (by decide)]), (by unfold xdsex; rw [wq_u_row (by decide)]), (by unfold xdsex; rw [wq_u_row (by decide)]), (by unfold xdsex; rw [wq_u_row (by decide)]), (by unfold xdsex; rw [wq_u_row (by decide)])⟩⟩)⟩
    · have f256640 := f256574.tr f256588 rfl
      show wp _ _ 193 24 [(0, .ref r0)] [vI z256589] _ H256583 _
      have u256641 := RO_k a256599
      refine wp_of e193 c193_24 (rw_istore_n (pc' := 25) (z := z256589) (L' := [(1, vI z256589), (0, .ref r0)]) rfl rfl rfl ?_)
      refine wp_of e193 c193_25 (rw_aload_n (pc' := 26) (v := .ref r0) rfl rfl rfl ?_)
      refine wp_of e193 c193_26 (xg_I (pc' := 29) lf_9_75 w256587 g0 sh_42 (by decide) (by decide) ty_42_9 rfl rfl (fun b256642 b256643 => ?_))
      refine wp_of e193 c193_29 (rw_iconst (pc' := 30) rfl ?_)
      refine wp_of e193 c193_30 (rw_icmp_eq (p1 := 41) (p2 := 33) (by decide) rfl ⟨by omega, by omega⟩ ⟨by omega, by omega⟩ (fun c256644 => ?_) (fun c256644 => ?_))
      · have o256645 : (xl2 B n q d) = (xkn B n ((xN B n q)) d, ((xN B n q)), ((xN B n q))) := by
          unfold xl2 xsex
          repeat first | rw [xs_0 (by omega)] | rw [xs_1 (by omega)] | rw [if_pos (by omega)] | rw [if_neg (by omega)]
          first | done | rfl | assumption | (exfalso; omega) | (refine Prod.ext ?_ (Prod.ext ?_ ?_) <;> (try dsimp only) <;> omega)
        have o256645a : ((xl2 B n q d)).1 = xkn B n ((xN B n q)) d := by rw [o256645]
        have o256645b : ((xl2 B n q d)).2.1 = ((xN B n q)) := by rw [o256645]
        have o256645c : ((xl2 B n q d)).2.2 = ((xN B n q)) := by rw [o256645]
        exact wp_return e193 c193_41 rfl ⟨rfl, w256587, f256640, rfl, (Or.inr ⟨by omega, RO_eq a256599 (by omega) (by omega)⟩)⟩
      · exfalso
        omega
  · refine wp_of e193 c193_11 (rw_aload_n (pc' := 12) (v := .ref r0) rfl rfl rfl ?_)
    refine wp_of e193 c193_12 (rw_iconst (pc' := 13) rfl ?_)
    refine wp_of e193 c193_13 (xc_V (pc' := 16) (r := r0) (as := [vI 3]) (st := []) (lm_9_121) rfl rfl (Nat.le_of_ble_eq_true rfl) hW g0 sh_42 (by decide) rfl (by decide) (u_181_k (B := B) (n := n) (q := q) hW g0 ⟨by omega, by omega⟩ (by omega) hRC_r0) (fun R256646 T256647 H256648 p256649 => ?_))
    obtain ⟨e256650, w256652, f256653, e256651, p256654⟩ := p256649
    subst e256650
    subst e256651
    have f256656 := f0.tr f256653 rfl
    show wp _ _ 193 16 [(0, .ref r0)] [] _ H256648 _
    have u256657 := RO_k p256654
    refine wp_of e193 c193_16 (rw_aload_n (pc' := 17) (v := .ref r0) rfl rfl rfl ?_)
    refine wp_of e193 c193_17 (xc_V (pc' := 20) (r := r0) (as := []) (st := []) (lm_9_118) rfl rfl (Nat.le_of_ble_eq_true rfl) w256652 g0 sh_42 (by decide) rfl (by decide) (u_172_o (fo := 3) (po := q) w256652 g0 p256654) (fun R256658 T256659 H256660 p256661 => ?_))
    obtain ⟨e256662, e256664, e256663, p256665⟩ := p256661
    subst e256662
    subst e256663
    subst e256664
    show wp _ _ 193 20 [(0, .ref r0)] [] _ H256648 _
    have u256667 := RO_k p256665
    refine wp_of e193 c193_20 (rw_aload_n (pc' := 21) (v := .ref r0) rfl rfl rfl ?_)
    have k256668 : H256648 r0 4 = H r0 4 := (f256653 r0 4 _ g0 rfl)
    have q256669 : H256648 r0 4 = (rp : Int) := k256668.trans qrp
    have k256670 : H256648 r0 5 = H r0 5 := (f256653 r0 5 _ g0 rfl)
    have q256671 : H256648 r0 5 = (rb : Int) := k256670.trans qrb
    refine wp_of e193 c193_21 (xc_V (pc' := 24) (r := r0) (as := []) (st := []) (lm_9_273) rfl rfl (Nat.le_of_ble_eq_true rfl) w256652 g0 sh_42 (by decide) rfl (by decide) (u_194_o (fo := 3) (po := q) w256652 g0 q256669 grp q256671 grb p256665) (fun R256672 T256673 H256674 p256675 => ?_))
    obtain ⟨e256676, e256678, z256679, e256677, b256680, p256681⟩ := p256675
    subst e256676
    subst e256677
    subst e256678
    obtain ⟨a256682, a256683⟩ := p256681
    show wp _ _ 193 24 [(0, .ref r0)] [vI z256679] _ H256648 _
    have u256684 := RO_k a256683
    refine wp_of e193 c193_24 (rw_istore_n (pc' := 25) (z := z256679) (L' := [(1, vI z256679), (0, .ref r0)]) rfl rfl rfl ?_)
    refine wp_of e193 c193_25 (rw_aload_n (pc' := 26) (v := .ref r0) rfl rfl rfl ?_)
    refine wp_of e193 c193_26 (xg_I (pc' := 29) lf_9_75 w256652 g0 sh_42 (by decide) (by decide) ty_42_9 rfl rfl (fun b256685 b256686 => ?_))
    refine wp_of e193 c193_29 (rw_iconst (pc' := 30) rfl ?_)
    refine wp_of e193 c193_30 (rw_icmp_eq (p1 := 41) (p2 := 33) (by decide) rfl ⟨by omega, by omega⟩ ⟨by omega, by omega⟩ (fun c256687 => ?_) (fun c256687 => ?_))
    · have o256688 : (xl2 B n q d) = (3, q, q) := by
        unfold xl2 xsex
        repeat first | rw [xs_0 (by omega)] | rw [xs_1 (by omega)] | rw [if_pos (by omega)] | rw [if_neg (by omega)]
        first | done | rfl | assumption | (exfalso; omega) | (refine Prod.ext ?_ (Prod.ext ?_ ?_) <;> (try dsimp only) <;> omega)
      have o256688a : ((xl2 B n q d)).1 = 3 := by rw [o256688]
      have o256688b : ((xl2 B n q d)).2.1 = q := by rw [o256688]
      have o256688c : ((xl2 B n q d)).2.2 = q := by rw [o256688]
      exact wp_return e193 c193_41 rfl ⟨rfl, w256652, f256656, rfl, (Or.inr ⟨by omega, RO_eq a256683 (by omega) (by omega)⟩)⟩
    · exfalso
      omega
/-! StrikeAwakeModel.readSexton()V o -/
abbrev uq_193_o (r0 : Nat) (rp : Nat) (rb : Nat) (fo : Int) (po : Int) (T : wq_T) (H : wq_H) : Option Value → wq_T → wq_H → Prop := fun r T' H' => T = T' ∧ H = H' ∧ none = r ∧ ((RO T H r0 fo po))
set_option maxHeartbeats 4000000 in
theorem u_193_o {kt : Nat → Option mc_E} {T : wq_T} {H : wq_H} {r0 : Nat} {rp : Nat} {rb : Nat} {fo : Int} {po : Int} (hW : WT T H) (g0 : T.2.2.2 r0 = some 42) (qrp : H r0 4 = (rp : Int)) (grp : T.2.2.2 rp = some 54) (qrb : H r0 5 = (rb : Int)) (grb : T.2.2.2 rb = some 43) (hRO_r0 : RO T H r0 fo po) : wpc kt 6 193 [.ref r0] T H (uq_193_o r0 rp rb fo po T H) := by
  refine wp_enter e193 (Nat.le_of_ble_eq_true rfl) rfl ?_
  show wp _ _ 193 0 [(0, .ref r0)] [] _ H _
  have u256749 := RO_k hRO_r0
  refine wp_of e193 c193_0 (rw_aload_n (pc' := 1) (v := .ref r0) rfl rfl rfl ?_)
  refine wp_of e193 c193_1 (xg_K (pc' := 4) lf_9_166 hW g0 sh_42 (by decide) (by decide) rfl qrp rfl ?_)
  refine wp_of e193 c193_4 (xg_I (pc' := 7) lf_9_271 hW grp sh_54 (by decide) (by decide) ty_54_8 rfl rfl (fun b256750 b256751 => ?_))
  refine wp_of e193 c193_7 (rw_iconst (pc' := 8) rfl ?_)
  refine wp_of e193 c193_8 (rw_icmp_eq (p1 := 16) (p2 := 11) (by decide) rfl ⟨by omega, by omega⟩ ⟨by omega, by omega⟩ (fun c256752 => ?_) (fun c256752 => ?_))
  · refine wp_of e193 c193_16 (rw_aload_n (pc' := 17) (v := .ref r0) rfl rfl rfl ?_)
    refine wp_of e193 c193_17 (xc_V (pc' := 20) (r := r0) (as := []) (st := []) (lm_9_118) rfl rfl (Nat.le_of_ble_eq_true rfl) hW g0 sh_42 (by decide) rfl (by decide) (u_172_o (fo := fo) (po := po) hW g0 hRO_r0) (fun R256753 T256754 H256755 p256756 => ?_))
    obtain ⟨e256757, e256759, e256758, p256760⟩ := p256756
    subst e256757
    subst e256758
    subst e256759
    show wp _ _ 193 20 [(0, .ref r0)] [] _ H _
    have u256762 := RO_k p256760
    refine wp_of e193 c193_20 (rw_aload_n (pc' := 21) (v := .ref r0) rfl rfl rfl ?_)
    refine wp_of e193 c193_21 (xc_V (pc' := 24) (r := r0) (as := []) (st := []) (lm_9_273) rfl rfl (Nat.le_of_ble_eq_true rfl) hW g0 sh_42 (by decide) rfl (by decide) (u_194_o (fo := fo) (po := po) hW g0 qrp grp qrb grb p256760) (fun R256763 T256764 H256765 p256766 => ?_))
    obtain ⟨e256767, e256769, z256770, e256768, b256771, p256772⟩ := p256766
    subst e256767
    subst e256768
    subst e256769
    obtain ⟨a256773, a256774⟩ := p256772
    show wp _ _ 193 24 [(0, .ref r0)] [vI z256770] _ H _
    have u256775 := RO_k a256774
    refine wp_of e193 c193_24 (rw_istore_n (pc' := 25) (z := z256770) (L' := [(1, vI z256770), (0, .ref r0)]) rfl rfl rfl ?_)
    refine wp_of e193 c193_25 (rw_aload_n (pc' := 26) (v := .ref r0) rfl rfl rfl ?_)
    refine wp_of e193 c193_26 (xg_I (pc' := 29) lf_9_75 hW g0 sh_42 (by decide) (by decide) ty_42_9 rfl rfl (fun b256776 b256777 => ?_))
    refine wp_of e193 c193_29 (rw_iconst (pc' := 30) rfl ?_)
    refine wp_of e193 c193_30 (rw_icmp_eq (p1 := 41) (p2 := 33) (by decide) rfl ⟨by omega, by omega⟩ ⟨by omega, by omega⟩ (fun c256778 => ?_) (fun c256778 => ?_))
    · exact wp_return e193 c193_41 rfl ⟨rfl, rfl, rfl, (a256774)⟩
    · exfalso
      omega
  · refine wp_of e193 c193_11 (rw_aload_n (pc' := 12) (v := .ref r0) rfl rfl rfl ?_)
    refine wp_of e193 c193_12 (rw_iconst (pc' := 13) rfl ?_)
    refine wp_of e193 c193_13 (xc_V (pc' := 16) (r := r0) (as := [vI 3]) (st := []) (lm_9_121) rfl rfl (Nat.le_of_ble_eq_true rfl) hW g0 sh_42 (by decide) rfl (by decide) (u_181_o (fo := fo) (po := po) hW g0 ⟨by omega, by omega⟩ hRO_r0) (fun R256779 T256780 H256781 p256782 => ?_))
    obtain ⟨e256783, e256785, e256784, p256786⟩ := p256782
    subst e256783
    subst e256784
    subst e256785
    show wp _ _ 193 16 [(0, .ref r0)] [] _ H _
    have u256788 := RO_k p256786
    refine wp_of e193 c193_16 (rw_aload_n (pc' := 17) (v := .ref r0) rfl rfl rfl ?_)
    refine wp_of e193 c193_17 (xc_V (pc' := 20) (r := r0) (as := []) (st := []) (lm_9_118) rfl rfl (Nat.le_of_ble_eq_true rfl) hW g0 sh_42 (by decide) rfl (by decide) (u_172_o (fo := fo) (po := po) hW g0 p256786) (fun R256789 T256790 H256791 p256792 => ?_))
    obtain ⟨e256793, e256795, e256794, p256796⟩ := p256792
    subst e256793
    subst e256794
    subst e256795
    show wp _ _ 193 20 [(0, .ref r0)] [] _ H _
    have u256798 := RO_k p256796
    refine wp_of e193 c193_20 (rw_aload_n (pc' := 21) (v := .ref r0) rfl rfl rfl ?_)
    refine wp_of e193 c193_21 (xc_V (pc' := 24) (r := r0) (as := []) (st := []) (lm_9_273) rfl rfl (Nat.le_of_ble_eq_true rfl) hW g0 sh_42 (by decide) rfl (by decide) (u_194_o (fo := fo) (po := po) hW g0 qrp grp qrb grb p256796) (fun R256799 T256800 H256801 p256802 => ?_))
    obtain ⟨e256803, e256805, z256806, e256804, b256807, p256808⟩ := p256802
    subst e256803
    subst e256804
    subst e256805
    obtain ⟨a256809, a256810⟩ := p256808
    show wp _ _ 193 24 [(0, .ref r0)] [vI z256806] _ H _
    have u256811 := RO_k a256810
    refine wp_of e193 c193_24 (rw_istore_n (pc' := 25) (z := z256806) (L' := [(1, vI z256806), (0, .ref r0)]) rfl rfl rfl ?_)
    refine wp_of e193 c193_25 (rw_aload_n (pc' := 26) (v := .ref r0) rfl rfl rfl ?_)
    refine wp_of e193 c193_26 (xg_I (pc' := 29) lf_9_75 hW g0 sh_42 (by decide) (by decide) ty_42_9 rfl rfl (fun b256812 b256813 => ?_))
    refine wp_of e193 c193_29 (rw_iconst (pc' := 30) rfl ?_)
    refine wp_of e193 c193_30 (rw_icmp_eq (p1 := 41) (p2 := 33) (by decide) rfl ⟨by omega, by omega⟩ ⟨by omega, by omega⟩ (fun c256814 => ?_) (fun c256814 => ?_))
    · exact wp_return e193 c193_41 rfl ⟨rfl, rfl, rfl, (a256810)⟩
    · exfalso
      omega
/-! StrikeAwakeModel.readBorn()V k -/
abbrev uq_198_k (r0 : Nat) (rp : Nat) (rb : Nat) (B : Nat → Int) (n : Int) (q : Int) (d : xD) (T : wq_T) (H : wq_H) : Option Value → wq_T → wq_H → Prop := fun r T' H' => T = T' ∧ WT T H' ∧ wfr [(54, 5), (42, 8), (42, 9), (42, 10), (42, 11), (42, 12), (42, 13), (42, 14), (42, 15), (66, 999)] T H H' ∧ none = r ∧ ((((xl4 B n q d).1 = 0) ∧ ((xl4 B n q d).2.2 = (xN B n (xN B n q))) ∧ (q ≤ (xN B n (xN B n q))) ∧ RC T H' r0 B n (xN B n (xN B n q)) ∧ DM T H' rp r0 (xdbo B n (xN B n q) d)) ∨ (((xl4 B n q d).1 ≠ 0) ∧ RO T H' r0 ((xl4 B n q d).1) ((xl4 B n q d).2.1)))
set_option maxHeartbeats 4000000 in
theorem u_198_k {kt : Nat → Option mc_E} {T : wq_T} {H : wq_H} {r0 : Nat} {rp : Nat} {rb : Nat} {B : Nat → Int} {n : Int} {q : Int} {d : xD} (hW : WT T H) (g0 : T.2.2.2 r0 = some 42) (qrp : H r0 4 = (rp : Int)) (grp : T.2.2.2 rp = some 54) (qrb : H r0 5 = (rb : Int)) (grb : T.2.2.2 rb = some 43) (p0 : xK B n q = 1) (hRC_r0 : RC T H r0 B n q) (hDM_rp : DM T H rp r0 d) : wpc kt 4 198 [.ref r0] T H (uq_198_k r0 rp rb B n q d T H) := by
  refine wp_enter e198 (Nat.le_of_ble_eq_true rfl) rfl ?_
  have f0 : wfr [(54, 5), (42, 8), (42, 9), (42, 10), (42, 11), (42, 12), (42, 13), (42, 14), (42, 15), (66, 999)] T H H := wfr.rf
  show wp _ _ 198 0 [(0, .ref r0)] [] _ H _
  have u256916 := RC_k hRC_r0
  have u256917 := DM_k hDM_rp
  have h256918 : MA9 T H rp (d 1) := hDM_rp.2.2.2.1
  have h256919 : MA10 T H rp (d 2) := hDM_rp.2.2.2.2.1
  have h256920 : MA11 T H rp (d 3) := hDM_rp.2.2.2.2.2.1
  have h256921 : MA12 T H rp (d 4) := hDM_rp.2.2.2.2.2.2.1
  have h256922 : MA13 T H rp (d 5) := hDM_rp.2.2.2.2.2.2.2.1
  have h256923 : MA14 T H rp (d 6) := hDM_rp.2.2.2.2.2.2.2.2.1
  have h256924 : MA15 T H rp (d 7) := hDM_rp.2.2.2.2.2.2.2.2.2.1
  have h256925 : MA16 T H rp (d 8) := hDM_rp.2.2.2.2.2.2.2.2.2.2.1
  have h256926 : MA17 T H rp (d 9) := hDM_rp.2.2.2.2.2.2.2.2.2.2.2.1
  have h256927 : MA18 T H rp (d 10) := hDM_rp.2.2.2.2.2.2.2.2.2.2.2.2.1
  have h256928 : MA19 T H rp (d 11) := hDM_rp.2.2.2.2.2.2.2.2.2.2.2.2.2.1
  have h256929 : MA20 T H rp (d 12) := hDM_rp.2.2.2.2.2.2.2.2.2.2.2.2.2.2.1
  have h256930 : MA21 T H rp (d 13) := hDM_rp.2.2.2.2.2.2.2.2.2.2.2.2.2.2.2.1
  have h256931 : MA22 T H rp (d 14) := hDM_rp.2.2.2.2.2.2.2.2.2.2.2.2.2.2.2.2.1
  have h256932 : MA23 T H rp (d 15) := hDM_rp.2.2.2.2.2.2.2.2.2.2.2.2.2.2.2.2.2.1
  have h256933 : MA25 T H rp (d 17) := hDM_rp.2.2.2.2.2.2.2.2.2.2.2.2.2.2.2.2.2.2.1
  have h256934 : MA26 T H rp (d 16) := hDM_rp.2.2.2.2.2.2.2.2.2.2.2.2.2.2.2.2.2.2.2
  refine wp_of e198 c198_0 (rw_aload_n (pc' := 1) (v := .ref r0) rfl rfl rfl ?_)
  refine wp_of e198 c198_1 (rw_aload_n (pc' := 2) (v := .ref r0) rfl rfl rfl ?_)
  refine wp_of e198 c198_2 (xg_K (pc' := 5) lf_9_166 hW g0 sh_42 (by decide) (by decide) rfl qrp rfl ?_)
  refine wp_of e198 c198_5 (xg_I (pc' := 8) lf_9_288 hW grp sh_54 (by decide) (by decide) ty_54_5 rfl rfl (fun b256935 b256936 => ?_))
  refine wp_of e198 c198_8 (rw_iconst (pc' := 9) rfl ?_)
  refine wp_of e198 c198_9 (xc_V (pc' := 12) (r := r0) (as := [vI (H rp 5), vI 3]) (st := []) (lm_9_228) rfl rfl (Nat.le_of_ble_eq_true rfl) hW g0 sh_42 (by decide) rfl (by decide) (u_188_k (B := B) (n := n) (q := q) hW g0 ⟨by omega, by omega⟩ ⟨by omega, by omega⟩ qrb grb (by omega) hRC_r0) (fun R256937 T256938 H256939 p256940 => ?_))
  obtain ⟨e256941, w256943, f256944, e256942, p256945⟩ := p256940
  subst e256941
  subst e256942
  rcases p256945 with ⟨a256946, a256947⟩ | ⟨a256948, a256949⟩
  · have f256950 := f0.tr f256944 rfl
    show wp _ _ 198 12 [(0, .ref r0)] [] _ H256939 _
    have u256951 := RC_k a256947
    refine wp_of e198 c198_12 (rw_aload_n (pc' := 13) (v := .ref r0) rfl rfl rfl ?_)
    refine wp_of e198 c198_13 (rw_iconst (pc' := 14) rfl ?_)
    refine wp_of e198 c198_14 (rw_bipush (pc' := 16) (z := 23) rfl (by decide) ?_)
    have k256952 : H256939 r0 5 = H r0 5 := (f256944 r0 5 _ g0 rfl)
    have q256953 : H256939 r0 5 = (rb : Int) := k256952.trans qrb
    refine wp_of e198 c198_16 (xc_V (pc' := 19) (r := r0) (as := [vI 0, vI 23]) (st := []) (lm_9_137) rfl rfl (Nat.le_of_ble_eq_true rfl) w256943 g0 sh_42 (by decide) rfl (by decide) (u_184_k (B := B) (n := n) (q := ((xN B n q))) (lo := 0) (hi := 23) w256943 g0 ⟨by omega, by omega⟩ ⟨by omega, by omega⟩ q256953 grb (by omega) (by omega) a256947) (fun R256954 T256955 H256956 p256957 => ?_))
    obtain ⟨e256958, w256960, f256961, z256962, e256959, b256963, p256964⟩ := p256957
    subst e256958
    subst e256959
    rcases p256964 with ⟨a256965, a256966, a256967, a256968⟩ | ⟨a256969, a256970, a256971⟩
    · have f256972 := f256950.tr f256961 rfl
      show wp _ _ 198 19 [(0, .ref r0)] [vI z256962] _ H256956 _
      have u256973 := RC_k a256968
      refine wp_of e198 c198_19 (rw_istore_n (pc' := 20) (z := z256962) (L' := [(1, vI z256962), (0, .ref r0)]) rfl rfl rfl ?_)
      refine wp_of e198 c198_20 (rw_aload_n (pc' := 21) (v := .ref r0) rfl rfl rfl ?_)
      refine wp_of e198 c198_21 (xg_I (pc' := 24) lf_9_75 w256960 g0 sh_42 (by decide) (by decide) ty_42_9 rfl rfl (fun b256974 b256975 => ?_))
      refine wp_of e198 c198_24 (rw_iconst (pc' := 25) rfl ?_)
      refine wp_of e198 c198_25 (rw_icmp_ne (p1 := 29) (p2 := 28) (by decide) rfl ⟨by omega, by omega⟩ ⟨by omega, by omega⟩ (fun c256976 => ?_) (fun c256976 => ?_))
      · refine wp_of e198 c198_29 (rw_aload_n (pc' := 30) (v := .ref r0) rfl rfl rfl ?_)
        have k256977 : H256956 r0 4 = H r0 4 := ((f256961 r0 4 _ g0 rfl).trans (f256944 r0 4 _ g0 rfl))
        have q256978 : H256956 r0 4 = (rp : Int) := k256977.trans qrp
        refine wp_of e198 c198_30 (xg_K (pc' := 33) lf_9_166 w256960 g0 sh_42 (by decide) (by decide) rfl q256978 rfl ?_)
        refine wp_of e198 c198_33 (xg_R (pc' := 36) lf_9_291 w256960 grp sh_54 (by decide) (by decide) ty_54_20 rfl rfl (fun r256979 q256980 g256981 => ?_))
        refine wp_of e198 c198_36 (rw_aload_n (pc' := 37) (v := .ref r0) rfl rfl rfl ?_)
        refine wp_of e198 c198_37 (xg_K (pc' := 40) lf_9_166 w256960 g0 sh_42 (by decide) (by decide) rfl q256978 rfl ?_)
        have k256982 : H256956 rp 5 = H rp 5 := ((f256961 rp 5 _ grp rfl).trans (f256944 rp 5 _ grp rfl))
        refine wp_of e198 c198_40 (xg_I (pc' := 43) lf_9_288 w256960 grp sh_54 (by decide) (by decide) ty_54_5 rfl rfl (fun b256983 b256984 => ?_))
        refine wp_of e198 c198_43 (rw_iload_n (pc' := 44) (z := z256962) rfl rfl ?_)
        have h256985 : MA20 T H256956 rp (d 12) := (MA20_fr w256943 grp f256961 rfl (MA20_fr hW grp f256944 rfl h256929))
        refine wp_of e198 c198_44 (xs_I (pc' := 45) w256960 g256981 (by decide) sh_66 (by decide) (ty_66 _) (by omega) (by omega) ⟨by omega, by omega⟩ (by omega) (by omega) rfl (fun H256986 e256987 w256988 => ?_))
        have f256989 := f256972.put' e256987 g256981 rfl
        have h256990 : MA20 T H256986 rp (xdbo B n (xN B n q) d 12) := MA_put h256985 q256980 grp g256981 (by decide) e256987 ((xdbo_c (k := ((H256956 rp 5).toNat)) (by omega)).1.trans (by omega)) (xdbo_c (k := ((H256956 rp 5).toNat)) (by omega)).2
        refine wp_of e198 c198_45 (rw_aload_n (pc' := 46) (v := .ref r0) rfl rfl rfl ?_)
        have k256991 : H256986 r0 4 = H256956 r0 4 := (wq_u_t e256987 g256981 g0 rfl 4)
        have q256992 : H256986 r0 4 = (rp : Int) := k256991.trans q256978
        refine wp_of e198 c198_46 (xg_K (pc' := 49) lf_9_166 w256988 g0 sh_42 (by decide) (by decide) rfl q256992 rfl ?_)
        refine wp_of e198 c198_49 (rw_dup (pc' := 50) rfl rfl ?_)
        have k256993 : H256986 rp 5 = H256956 rp 5 := (wq_u_t e256987 g256981 grp rfl 5)
        refine wp_of e198 c198_50 (xg_I (pc' := 53) lf_9_288 w256988 grp sh_54 (by decide) (by decide) ty_54_5 rfl rfl (fun b256994 b256995 => ?_))
        refine wp_of e198 c198_53 (rw_iconst (pc' := 54) rfl ?_)
        refine wp_of e198 c198_54 (rw_iadd (pc' := 55) rfl ?_)
        refine wp_of e198 c198_55 (xp_I (pc' := 58) lf_9_288 w256988 grp sh_54 (by decide) (by decide) ty_54_5 rfl rfl (by omega) (by omega) ⟨by omega, by omega⟩ rfl (fun H256996 e256997 w256998 => ?_))
        have f256999 := f256989.put' e256997 grp rfl
        have k257000 : H256996 rp 5 = (H256986 rp 5) + 1 := wq_u_s e256997
        have k257001 : H256996 rp 0 = H rp 0 := ((wq_u_j e256997 rfl).trans ((wq_u_t e256987 g256981 grp rfl 0).trans ((f256961 rp 0 _ grp rfl).trans (f256944 rp 0 _ grp rfl))))
        have k257002 : H256996 rp 1 = H rp 1 := ((wq_u_j e256997 rfl).trans ((wq_u_t e256987 g256981 grp rfl 1).trans ((f256961 rp 1 _ grp rfl).trans (f256944 rp 1 _ grp rfl))))
        have k257003 : H256996 rp 2 = H rp 2 := ((wq_u_j e256997 rfl).trans ((wq_u_t e256987 g256981 grp rfl 2).trans ((f256961 rp 2 _ grp rfl).trans (f256944 rp 2 _ grp rfl))))
        have k257004 : H256996 rp 3 = H rp 3 := ((wq_u_j e256997 rfl).trans ((wq_u_t e256987 g256981 grp rfl 3).trans ((f256961 rp 3 _ grp rfl).trans (f256944 rp 3 _ grp rfl))))
        have k257005 : H256996 rp 4 = H rp 4 := ((wq_u_j e256997 rfl).trans ((wq_u_t e256987 g256981 grp rfl 4).trans ((f256961 rp 4 _ grp rfl).trans (f256944 rp 4 _ grp rfl))))
        have k257006 : H256996 rp 6 = H rp 6 := ((wq_u_j e256997 rfl).trans ((wq_u_t e256987 g256981 grp rfl 6).trans ((f256961 rp 6 _ grp rfl).trans (f256944 rp 6 _ grp rfl))))
        have k257007 : H256996 rp 7 = H rp 7 := ((wq_u_j e256997 rfl).trans ((wq_u_t e256987 g256981 grp rfl 7).trans ((f256961 rp 7 _ grp rfl).trans (f256944 rp 7 _ grp rfl))))
        have k257008 : H256996 rp 8 = H rp 8 := ((wq_u_j e256997 rfl).trans ((wq_u_t e256987 g256981 grp rfl 8).trans ((f256961 rp 8 _ grp rfl).trans (f256944 rp 8 _ grp rfl))))
        have k257009 : H256996 r0 16 = H r0 16 := ((wq_u_t e256997 grp g0 rfl 16).trans ((wq_u_t e256987 g256981 g0 rfl 16).trans ((f256961 r0 16 _ g0 rfl).trans (f256944 r0 16 _ g0 rfl))))
        have o257010 : (xl4 B n q d) = (0, (xN B n q), (xN B n ((xN B n q)))) := by
          unfold xl4 xbo
          repeat first | rw [xs_0 (by omega)] | rw [xs_1 (by omega)] | rw [if_pos (by omega)] | rw [if_neg (by omega)]
          first | done | rfl | assumption | (exfalso; omega) | (refine Prod.ext ?_ (Prod.ext ?_ ?_) <;> (try dsimp only) <;> omega)
        have o257010a : ((xl4 B n q d)).1 = 0 := by rw [o257010]
        have o257010b : ((xl4 B n q d)).2.1 = (xN B n q) := by rw [o257010]
        have o257010c : ((xl4 B n q d)).2.2 = (xN B n ((xN B n q))) := by rw [o257010]
        have _l := @xdbo_v B n (xN B n q) d
        have h257011 : RC T H256996 r0 B n (xN B n ((xN B n q))) := (RC_fr w256988 g0 ((wfr.rf (l := [(54, 5)])).put' e256997 grp rfl) rfl (RC_fr w256960 g0 ((wfr.rf (l := [(66, 999)])).put' e256987 g256981 rfl) rfl a256968))
        have h257012 : MA9 T H256996 rp (d 1) := (MA9_fr w256988 grp ((wfr.rf (l := [(54, 5)])).put' e256997 grp rfl) rfl (MA9_fr w256960 grp ((wfr.rf (l := [(66, 999)])).put' e256987 g256981 rfl) rfl (MA9_fr w256943 grp f256961 rfl (MA9_fr hW grp f256944 rfl h256918))))
        have h257013 : MA10 T H256996 rp (d 2) := (MA10_fr w256988 grp ((wfr.rf (l := [(54, 5)])).put' e256997 grp rfl) rfl (MA10_fr w256960 grp ((wfr.rf (l := [(66, 999)])).put' e256987 g256981 rfl) rfl (MA10_fr w256943 grp f256961 rfl (MA10_fr hW grp f256944 rfl h256919))))
        have h257014 : MA11 T H256996 rp (d 3) := (MA11_fr w256988 grp ((wfr.rf (l := [(54, 5)])).put' e256997 grp rfl) rfl (MA11_fr w256960 grp ((wfr.rf (l := [(66, 999)])).put' e256987 g256981 rfl) rfl (MA11_fr w256943 grp f256961 rfl (MA11_fr hW grp f256944 rfl h256920))))
        have h257015 : MA12 T H256996 rp (d 4) := (MA12_fr w256988 grp ((wfr.rf (l := [(54, 5)])).put' e256997 grp rfl) rfl (MA12_fr w256960 grp ((wfr.rf (l := [(66, 999)])).put' e256987 g256981 rfl) rfl (MA12_fr w256943 grp f256961 rfl (MA12_fr hW grp f256944 rfl h256921))))
        have h257016 : MA13 T H256996 rp (d 5) := (MA13_fr w256988 grp ((wfr.rf (l := [(54, 5)])).put' e256997 grp rfl) rfl (MA13_fr w256960 grp ((wfr.rf (l := [(66, 999)])).put' e256987 g256981 rfl) rfl (MA13_fr w256943 grp f256961 rfl (MA13_fr hW grp f256944 rfl h256922))))
        have h257017 : MA14 T H256996 rp (d 6) := (MA14_fr w256988 grp ((wfr.rf (l := [(54, 5)])).put' e256997 grp rfl) rfl (MA14_fr w256960 grp ((wfr.rf (l := [(66, 999)])).put' e256987 g256981 rfl) rfl (MA14_fr w256943 grp f256961 rfl (MA14_fr hW grp f256944 rfl h256923))))
        have h257018 : MA15 T H256996 rp (d 7) := (MA15_fr w256988 grp ((wfr.rf (l := [(54, 5)])).put' e256997 grp rfl) rfl (MA15_fr w256960 grp ((wfr.rf (l := [(66, 999)])).put' e256987 g256981 rfl) rfl (MA15_fr w256943 grp f256961 rfl (MA15_fr hW grp f256944 rfl h256924))))
        have h257019 : MA16 T H256996 rp (d 8) := (MA16_fr w256988 grp ((wfr.rf (l := [(54, 5)])).put' e256997 grp rfl) rfl (MA16_fr w256960 grp ((wfr.rf (l := [(66, 999)])).put' e256987 g256981 rfl) rfl (MA16_fr w256943 grp f256961 rfl (MA16_fr hW grp f256944 rfl h256925))))
        have h257020 : MA17 T H256996 rp (d 9) := (MA17_fr w256988 grp ((wfr.rf (l := [(54, 5)])).put' e256997 grp rfl) rfl (MA17_fr w256960 grp ((wfr.rf (l := [(66, 999)])).put' e256987 g256981 rfl) rfl (MA17_fr w256943 grp f256961 rfl (MA17_fr hW grp f256944 rfl h256926))))
        have h257021 : MA18 T H256996 rp (d 10) := (MA18_fr w256988 grp ((wfr.rf (l := [(54, 5)])).put' e256997 grp rfl) rfl (MA18_fr w256960 grp ((wfr.rf (l := [(66, 999)])).put' e256987 g256981 rfl) rfl (MA18_fr w256943 grp f256961 rfl (MA18_fr hW grp f256944 rfl h256927))))
        have h257022 : MA19 T H256996 rp (d 11) := (MA19_fr w256988 grp ((wfr.rf (l := [(54, 5)])).put' e256997 grp rfl) rfl (MA19_fr w256960 grp ((wfr.rf (l := [(66, 999)])).put' e256987 g256981 rfl) rfl (MA19_fr w256943 grp f256961 rfl (MA19_fr hW grp f256944 rfl h256928))))
        have h257023 : MA20 T H256996 rp (xdbo B n (xN B n q) d 12) := (MA20_fr w256988 grp ((wfr.rf (l := [(54, 5)])).put' e256997 grp rfl) rfl h256990)
        have h257024 : MA21 T H256996 rp (d 13) := (MA21_fr w256988 grp ((wfr.rf (l := [(54, 5)])).put' e256997 grp rfl) rfl (MA21_fr w256960 grp ((wfr.rf (l := [(66, 999)])).put' e256987 g256981 rfl) rfl (MA21_fr w256943 grp f256961 rfl (MA21_fr hW grp f256944 rfl h256930))))
        have h257025 : MA22 T H256996 rp (d 14) := (MA22_fr w256988 grp ((wfr.rf (l := [(54, 5)])).put' e256997 grp rfl) rfl (MA22_fr w256960 grp ((wfr.rf (l := [(66, 999)])).put' e256987 g256981 rfl) rfl (MA22_fr w256943 grp f256961 rfl (MA22_fr hW grp f256944 rfl h256931))))
        have h257026 : MA23 T H256996 rp (d 15) := (MA23_fr w256988 grp ((wfr.rf (l := [(54, 5)])).put' e256997 grp rfl) rfl (MA23_fr w256960 grp ((wfr.rf (l := [(66, 999)])).put' e256987 g256981 rfl) rfl (MA23_fr w256943 grp f256961 rfl (MA23_fr hW grp f256944 rfl h256932))))
        have h257027 : MA25 T H256996 rp (d 17) := (MA25_fr w256988 grp ((wfr.rf (l := [(54, 5)])).put' e256997 grp rfl) rfl (MA25_fr w256960 grp ((wfr.rf (l := [(66, 999)])).put' e256987 g256981 rfl) rfl (MA25_fr w256943 grp f256961 rfl (MA25_fr hW grp f256944 rfl h256933))))
        have h257028 : MA26 T H256996 rp (d 16) := (MA26_fr w256988 grp ((wfr.rf (l := [(54, 5)])).put' e256997 grp rfl) rfl (MA26_fr w256960 grp ((wfr.rf (l := [(66, 999)])).put' e256987 g256981 rfl) rfl (MA26_fr w256943 grp f256961 rfl (MA26_fr hW grp f256944 rfl h256934))))
        exact wp_return e198 c198_58 rfl ⟨rfl, w256998, f256999, rfl, (Or.inl ⟨by omega, by omega, by omega, h257011, DM_mk hDM_rp.1 ⟨by omega, by omega, by omega, by omega, by omega, by omega, by omega, by omega, by omega, by omega, by omega, by omega⟩ (xdP_cg hDM_rp.2.2.1 (fun i h1 h2 => by unfold xdbo; rw [wq_u_row (by omega), wq_u_row (by omega)])) h257012 h257013 h257014 h257015 h257016 h257017 h257018 h257019 h257020 h257021 h257022 h257023 h257024 h257025 h257026 h257027 h257028 ⟨(by unfold xdbo; rw [wq_u_row (by decide), wq_u_row (by decide)]), (by unfold xdbo; rw [wq_u_row (by decide), wq_u_row (by decide)]), (by unfold xdbo; rw [wq_u_row (by decide), wq_u_row (by decide)]), (by unfold xdbo; rw [wq_u_row (by decide), wq_u_row (by decide)]), (by unfold xdbo; rw [wq_u_row (by decide), wq_u_row (by decide)]), (by unfold xdbo; rw [wq_u_row (by decide), wq_u_row (by decide)]), (by unfold xdbo; rw [wq_u_row (by decide), wq_u_row (by decide)]), (by unfold xdbo; rw [wq_u_row (by decide), wq_u_row (by decide)]), (by unfold xdbo; rw [wq_u_row (by decide), wq_u_row (by decide)]), (by unfold xdbo; rw [wq_u_row (by decide), wq_u_row (by decide)]), (by unfold xdbo; rw [wq_u_row (by decide), wq_u_row (by decide)]), rfl, (by unfold xdbo; rw [wq_u_row (by decide), wq_u_row (by decide)]), (by unfold xdbo; rw [wq_u_row (by decide), wq_u_row (by decide)]), (by unfold xdbo; rw [wq_u_row (by decide), wq_u_row (by decide)]), (by unfold xdbo; rw [wq_u_row (by decide), wq_u_row (by decide)]), (by unfold xdbo; rw [wq_u_row (by decide), wq_u_row (by decide)])⟩⟩)⟩
      · exfalso
        omega
    · have f257029 := f256950.tr f256961 rfl
      show wp _ _ 198 19 [(0, .ref r0)] [vI z256962] _ H256956 _
      have u257030 := RO_k a256971
      refine wp_of e198 c198_19 (rw_istore_n (pc' := 20) (z := z256962) (L' := [(1, vI z256962), (0, .ref r0)]) rfl rfl rfl ?_)
      refine wp_of e198 c198_20 (rw_aload_n (pc' := 21) (v := .ref r0) rfl rfl rfl ?_)
      refine wp_of e198 c198_21 (xg_I (pc' := 24) lf_9_75 w256960 g0 sh_42 (by decide) (by decide) ty_42_9 rfl rfl (fun b257031 b257032 => ?_))
      refine wp_of e198 c198_24 (rw_iconst (pc' := 25) rfl ?_)
      refine wp_of e198 c198_25 (rw_icmp_ne (p1 := 29) (p2 := 28) (by decide) rfl ⟨by omega, by omega⟩ ⟨by omega, by omega⟩ (fun c257033 => ?_) (fun c257033 => ?_))
      · exfalso
        omega
      · have o257034 : (xl4 B n q d) = (xh B n ((xN B n q)) 0 23, ((xN B n q)), ((xN B n q))) := by
          unfold xl4 xbo
          repeat first | rw [xs_0 (by omega)] | rw [xs_1 (by omega)] | rw [if_pos (by omega)] | rw [if_neg (by omega)]
          first | done | rfl | assumption | (exfalso; omega) | (refine Prod.ext ?_ (Prod.ext ?_ ?_) <;> (try dsimp only) <;> omega)
        have o257034a : ((xl4 B n q d)).1 = xh B n ((xN B n q)) 0 23 := by rw [o257034]
        have o257034b : ((xl4 B n q d)).2.1 = ((xN B n q)) := by rw [o257034]
        have o257034c : ((xl4 B n q d)).2.2 = ((xN B n q)) := by rw [o257034]
        exact wp_return e198 c198_28 rfl ⟨rfl, w256960, f257029, rfl, (Or.inr ⟨by omega, RO_eq a256971 (by omega) (by omega)⟩)⟩
  · have f257035 := f0.tr f256944 rfl
    show wp _ _ 198 12 [(0, .ref r0)] [] _ H256939 _
    have u257036 := RO_k a256949
    refine wp_of e198 c198_12 (rw_aload_n (pc' := 13) (v := .ref r0) rfl rfl rfl ?_)
    refine wp_of e198 c198_13 (rw_iconst (pc' := 14) rfl ?_)
    refine wp_of e198 c198_14 (rw_bipush (pc' := 16) (z := 23) rfl (by decide) ?_)
    have k257037 : H256939 r0 5 = H r0 5 := (f256944 r0 5 _ g0 rfl)
    have q257038 : H256939 r0 5 = (rb : Int) := k257037.trans qrb
    refine wp_of e198 c198_16 (xc_V (pc' := 19) (r := r0) (as := [vI 0, vI 23]) (st := []) (lm_9_137) rfl rfl (Nat.le_of_ble_eq_true rfl) w256943 g0 sh_42 (by decide) rfl (by decide) (u_184_o (fo := 5) (po := q) w256943 g0 ⟨by omega, by omega⟩ ⟨by omega, by omega⟩ q257038 grb a256949) (fun R257039 T257040 H257041 p257042 => ?_))
    obtain ⟨e257043, e257045, z257046, e257044, b257047, p257048⟩ := p257042
    subst e257043
    subst e257044
    subst e257045
    obtain ⟨a257049, a257050⟩ := p257048
    show wp _ _ 198 19 [(0, .ref r0)] [vI z257046] _ H256939 _
    have u257051 := RO_k a257050
    refine wp_of e198 c198_19 (rw_istore_n (pc' := 20) (z := z257046) (L' := [(1, vI z257046), (0, .ref r0)]) rfl rfl rfl ?_)
    refine wp_of e198 c198_20 (rw_aload_n (pc' := 21) (v := .ref r0) rfl rfl rfl ?_)
    refine wp_of e198 c198_21 (xg_I (pc' := 24) lf_9_75 w256943 g0 sh_42 (by decide) (by decide) ty_42_9 rfl rfl (fun b257052 b257053 => ?_))
    refine wp_of e198 c198_24 (rw_iconst (pc' := 25) rfl ?_)
    refine wp_of e198 c198_25 (rw_icmp_ne (p1 := 29) (p2 := 28) (by decide) rfl ⟨by omega, by omega⟩ ⟨by omega, by omega⟩ (fun c257054 => ?_) (fun c257054 => ?_))
    · exfalso
      omega
    · have o257055 : (xl4 B n q d) = (5, q, q) := by
        unfold xl4 xbo
        repeat first | rw [xs_0 (by omega)] | rw [xs_1 (by omega)] | rw [if_pos (by omega)] | rw [if_neg (by omega)]
        first | done | rfl | assumption | (exfalso; omega) | (refine Prod.ext ?_ (Prod.ext ?_ ?_) <;> (try dsimp only) <;> omega)
      have o257055a : ((xl4 B n q d)).1 = 5 := by rw [o257055]
      have o257055b : ((xl4 B n q d)).2.1 = q := by rw [o257055]
      have o257055c : ((xl4 B n q d)).2.2 = q := by rw [o257055]
      exact wp_return e198 c198_28 rfl ⟨rfl, w256943, f257035, rfl, (Or.inr ⟨by omega, RO_eq a257050 (by omega) (by omega)⟩)⟩
/-! StrikeAwakeModel.readBorn()V o -/
abbrev uq_198_o (r0 : Nat) (rp : Nat) (rb : Nat) (fo : Int) (po : Int) (T : wq_T) (H : wq_H) : Option Value → wq_T → wq_H → Prop := fun r T' H' => T = T' ∧ H = H' ∧ none = r ∧ ((RO T H r0 fo po))
set_option maxHeartbeats 4000000 in
theorem u_198_o {kt : Nat → Option mc_E} {T : wq_T} {H : wq_H} {r0 : Nat} {rp : Nat} {rb : Nat} {fo : Int} {po : Int} (hW : WT T H) (g0 : T.2.2.2 r0 = some 42) (qrp : H r0 4 = (rp : Int)) (grp : T.2.2.2 rp = some 54) (qrb : H r0 5 = (rb : Int)) (grb : T.2.2.2 rb = some 43) (hRO_r0 : RO T H r0 fo po) : wpc kt 4 198 [.ref r0] T H (uq_198_o r0 rp rb fo po T H) := by
  refine wp_enter e198 (Nat.le_of_ble_eq_true rfl) rfl ?_
  show wp _ _ 198 0 [(0, .ref r0)] [] _ H _
  have u257082 := RO_k hRO_r0
  refine wp_of e198 c198_0 (rw_aload_n (pc' := 1) (v := .ref r0) rfl rfl rfl ?_)
  refine wp_of e198 c198_1 (rw_aload_n (pc' := 2) (v := .ref r0) rfl rfl rfl ?_)
  refine wp_of e198 c198_2 (xg_K (pc' := 5) lf_9_166 hW g0 sh_42 (by decide) (by decide) rfl qrp rfl ?_)
  refine wp_of e198 c198_5 (xg_I (pc' := 8) lf_9_288 hW grp sh_54 (by decide) (by decide) ty_54_5 rfl rfl (fun b257083 b257084 => ?_))
  refine wp_of e198 c198_8 (rw_iconst (pc' := 9) rfl ?_)
  refine wp_of e198 c198_9 (xc_V (pc' := 12) (r := r0) (as := [vI (H rp 5), vI 3]) (st := []) (lm_9_228) rfl rfl (Nat.le_of_ble_eq_true rfl) hW g0 sh_42 (by decide) rfl (by decide) (u_188_o (fo := fo) (po := po) hW g0 ⟨by omega, by omega⟩ ⟨by omega, by omega⟩ qrb grb hRO_r0) (fun R257085 T257086 H257087 p257088 => ?_))
  obtain ⟨e257089, e257091, e257090, p257092⟩ := p257088
  subst e257089
  subst e257090
  subst e257091
  show wp _ _ 198 12 [(0, .ref r0)] [] _ H _
  have u257094 := RO_k p257092
  refine wp_of e198 c198_12 (rw_aload_n (pc' := 13) (v := .ref r0) rfl rfl rfl ?_)
  refine wp_of e198 c198_13 (rw_iconst (pc' := 14) rfl ?_)
  refine wp_of e198 c198_14 (rw_bipush (pc' := 16) (z := 23) rfl (by decide) ?_)
  refine wp_of e198 c198_16 (xc_V (pc' := 19) (r := r0) (as := [vI 0, vI 23]) (st := []) (lm_9_137) rfl rfl (Nat.le_of_ble_eq_true rfl) hW g0 sh_42 (by decide) rfl (by decide) (u_184_o (fo := fo) (po := po) hW g0 ⟨by omega, by omega⟩ ⟨by omega, by omega⟩ qrb grb p257092) (fun R257095 T257096 H257097 p257098 => ?_))
  obtain ⟨e257099, e257101, z257102, e257100, b257103, p257104⟩ := p257098
  subst e257099
  subst e257100
  subst e257101
  obtain ⟨a257105, a257106⟩ := p257104
  show wp _ _ 198 19 [(0, .ref r0)] [vI z257102] _ H _
  have u257107 := RO_k a257106
  refine wp_of e198 c198_19 (rw_istore_n (pc' := 20) (z := z257102) (L' := [(1, vI z257102), (0, .ref r0)]) rfl rfl rfl ?_)
  refine wp_of e198 c198_20 (rw_aload_n (pc' := 21) (v := .ref r0) rfl rfl rfl ?_)
  refine wp_of e198 c198_21 (xg_I (pc' := 24) lf_9_75 hW g0 sh_42 (by decide) (by decide) ty_42_9 rfl rfl (fun b257108 b257109 => ?_))
  refine wp_of e198 c198_24 (rw_iconst (pc' := 25) rfl ?_)
  refine wp_of e198 c198_25 (rw_icmp_ne (p1 := 29) (p2 := 28) (by decide) rfl ⟨by omega, by omega⟩ ⟨by omega, by omega⟩ (fun c257110 => ?_) (fun c257110 => ?_))
  · exfalso
    omega
  · exact wp_return e198 c198_28 rfl ⟨rfl, rfl, rfl, (a257106)⟩
/-! StrikeAwakeModel.readHours()I k -/
abbrev uq_201_k (r0 : Nat) (rp : Nat) (rb : Nat) (B : Nat → Int) (n : Int) (q : Int) (d : xD) (T : wq_T) (H : wq_H) : Option Value → wq_T → wq_H → Prop := fun r T' H' => T = T' ∧ WT T H' ∧ wfr [(42, 8), (42, 9), (42, 10), (42, 11), (42, 12), (42, 13), (42, 14), (42, 15), (42, 17), (42, 18)] T H H' ∧ ∃ z : Int, some (vI z) = r ∧ (0 ≤ z ∧ z ≤ 5) ∧ (((0 ≤ z ∧ z ≤ 5) ∧ ((xtl B n q d).1 = 0) ∧ (xtl B n q d = (0, q, (xN B n (xN B n (xN B n (xN B n q)))))) ∧ (z = xwho B n q d) ∧ (z < d 0 3) ∧ (H' r0 17 = xV B n (xN B n q)) ∧ (H' r0 18 = xV B n (xN B n (xN B n (xN B n q)))) ∧ (0 ≤ xV B n (xN B n q) ∧ xV B n (xN B n q) ≤ 23) ∧ (xV B n (xN B n q) + 1 ≤ xV B n (xN B n (xN B n (xN B n q))) ∧ xV B n (xN B n (xN B n (xN B n q))) ≤ 24) ∧ (q ≤ (xN B n (xN B n (xN B n (xN B n q))))) ∧ RC T H' r0 B n (xN B n (xN B n (xN B n (xN B n q))))) ∨ ((0 ≤ z ∧ z ≤ 5) ∧ ((xtl B n q d).1 ≠ 0) ∧ RO T H' r0 ((xtl B n q d).1) ((xtl B n q d).2.1)))
set_option maxHeartbeats 4000000 in
theorem u_201_k {kt : Nat → Option mc_E} {T : wq_T} {H : wq_H} {r0 : Nat} {rp : Nat} {rb : Nat} {B : Nat → Int} {n : Int} {q : Int} {d : xD} (hW : WT T H) (g0 : T.2.2.2 r0 = some 42) (qrp : H r0 4 = (rp : Int)) (grp : T.2.2.2 rp = some 54) (qrb : H r0 5 = (rb : Int)) (grb : T.2.2.2 rb = some 43) (hRC_r0 : RC T H r0 B n q) (hDM_rp : DM T H rp r0 d) : wpc kt 6 201 [.ref r0] T H (uq_201_k r0 rp rb B n q d T H) := by
  refine wp_enter e201 (Nat.le_of_ble_eq_true rfl) rfl ?_
  have f0 : wfr [(42, 8), (42, 9), (42, 10), (42, 11), (42, 12), (42, 13), (42, 14), (42, 15), (42, 17), (42, 18)] T H H := wfr.rf
  show wp _ _ 201 0 [(0, .ref r0)] [] _ H _
  have u257271 := RC_k hRC_r0
  have u257272 := DM_k hDM_rp
  refine wp_of e201 c201_0 (rw_aload_n (pc' := 1) (v := .ref r0) rfl rfl rfl ?_)
  refine wp_of e201 c201_1 (xc_V (pc' := 4) (r := r0) (as := []) (st := []) (lm_9_273) rfl rfl (Nat.le_of_ble_eq_true rfl) hW g0 sh_42 (by decide) rfl (by decide) (u_194_k (B := B) (n := n) (q := q) (d := d) hW g0 qrp grp qrb grb hRC_r0 hDM_rp) (fun R257273 T257274 H257275 p257276 => ?_))
  obtain ⟨e257277, w257279, f257280, z257281, e257278, b257282, p257283⟩ := p257276
  subst e257277
  subst e257278
  rcases p257283 with ⟨a257284, a257285, a257286, a257287, a257288⟩ | ⟨a257289, a257290, a257291⟩
  · have f257292 := f0.tr f257280 rfl
    show wp _ _ 201 4 [(0, .ref r0)] [vI z257281] _ H257275 _
    have u257293 := RC_k a257288
    refine wp_of e201 c201_4 (rw_istore_n (pc' := 5) (z := z257281) (L' := [(1, vI z257281), (0, .ref r0)]) rfl rfl rfl ?_)
    refine wp_of e201 c201_5 (rw_aload_n (pc' := 6) (v := .ref r0) rfl rfl rfl ?_)
    refine wp_of e201 c201_6 (rw_aload_n (pc' := 7) (v := .ref r0) rfl rfl rfl ?_)
    refine wp_of e201 c201_7 (rw_iconst (pc' := 8) rfl ?_)
    refine wp_of e201 c201_8 (rw_bipush (pc' := 10) (z := 23) rfl (by decide) ?_)
    have k257294 : H257275 r0 5 = H r0 5 := (f257280 r0 5 _ g0 rfl)
    have q257295 : H257275 r0 5 = (rb : Int) := k257294.trans qrb
    refine wp_of e201 c201_10 (xc_V (pc' := 13) (r := r0) (as := [vI 0, vI 23]) (st := [.ref r0]) (lm_9_137) rfl rfl (Nat.le_of_ble_eq_true rfl) w257279 g0 sh_42 (by decide) rfl (by decide) (u_184_k (B := B) (n := n) (q := ((xN B n q))) (lo := 0) (hi := 23) w257279 g0 ⟨by omega, by omega⟩ ⟨by omega, by omega⟩ q257295 grb (by omega) (by omega) a257288) (fun R257296 T257297 H257298 p257299 => ?_))
    obtain ⟨e257300, w257302, f257303, z257304, e257301, b257305, p257306⟩ := p257299
    subst e257300
    subst e257301
    rcases p257306 with ⟨a257307, a257308, a257309, a257310⟩ | ⟨a257311, a257312, a257313⟩
    · have f257314 := f257292.tr f257303 rfl
      show wp _ _ 201 13 [(1, vI z257281), (0, .ref r0)] [vI z257304, .ref r0] _ H257298 _
      have u257315 := RC_k a257310
      refine wp_of e201 c201_13 (xp_I (pc' := 16) lf_9_300 w257302 g0 sh_42 (by decide) (by decide) ty_42_17 rfl rfl (by omega) (by omega) ⟨by omega, by omega⟩ rfl (fun H257316 e257317 w257318 => ?_))
      have f257319 := f257314.put' e257317 g0 rfl
      have k257320 : H257316 r0 17 = z257304 := wq_u_s e257317
      refine wp_of e201 c201_16 (rw_aload_n (pc' := 17) (v := .ref r0) rfl rfl rfl ?_)
      refine wp_of e201 c201_17 (rw_aload_n (pc' := 18) (v := .ref r0) rfl rfl rfl ?_)
      refine wp_of e201 c201_18 (rw_ldcS (pc' := 20) (k := 87) rfl rfl rfl rfl ?_)
      refine wp_of e201 c201_20 (rw_aload_n (pc' := 21) (v := .ref r0) rfl rfl rfl ?_)
      refine wp_of e201 c201_21 (xg_I (pc' := 24) lf_9_300 w257318 g0 sh_42 (by decide) (by decide) ty_42_17 rfl rfl (fun b257321 b257322 => ?_))
      refine wp_of e201 c201_24 (rw_iconst (pc' := 25) rfl ?_)
      refine wp_of e201 c201_25 (rw_iadd (pc' := 26) rfl ?_)
      refine wp_of e201 c201_26 (rw_bipush (pc' := 28) (z := 24) rfl (by decide) ?_)
      have k257323 : H257316 r0 5 = H257275 r0 5 := ((wq_u_j e257317 rfl).trans (f257303 r0 5 _ g0 rfl))
      have q257324 : H257316 r0 5 = (rb : Int) := k257323.trans q257295
      have h257325 : RC T H257316 r0 B n (xN B n ((xN B n q))) := (RC_fr w257302 g0 ((wfr.rf (l := [(42, 17)])).put' e257317 g0 rfl) rfl a257310)
      refine wp_of e201 c201_28 (xc_V (pc' := 31) (r := r0) (as := [.ref 87, vI ((H257316 r0 17) + 1), vI 24]) (st := [.ref r0]) (lm_9_216) rfl rfl (Nat.le_of_ble_eq_true rfl) w257318 g0 sh_42 (by decide) rfl (by decide) (u_182_k (B := B) (n := n) (q := ((xN B n ((xN B n q))))) (kk := 655) (lo := (xV B n (xN B n q) + 1)) (hi := (min (xV B n (xN B n q) + 24) 24)) w257318 g0 rfl ⟨by omega, by omega⟩ ⟨by omega, by omega⟩ q257324 grb (by decide +kernel) (by omega) (by omega) h257325) (fun R257326 T257327 H257328 p257329 => ?_))
      obtain ⟨e257330, w257332, f257333, z257334, e257331, b257335, p257336⟩ := p257329
      subst e257330
      subst e257331
      rcases p257336 with ⟨a257337, a257338, a257339, a257340, a257341, a257342⟩ | ⟨a257343, a257344, a257345⟩ | ⟨a257346, a257347, a257348, a257349⟩
      · have f257350 := f257319.tr f257333 rfl
        show wp _ _ 201 31 [(1, vI z257281), (0, .ref r0)] [vI z257334, .ref r0] _ H257328 _
        have u257351 := RC_k a257342
        refine wp_of e201 c201_31 (xp_I (pc' := 34) lf_9_303 w257332 g0 sh_42 (by decide) (by decide) ty_42_18 rfl rfl (by omega) (by omega) ⟨by omega, by omega⟩ rfl (fun H257352 e257353 w257354 => ?_))
        have f257355 := f257350.put' e257353 g0 rfl
        have k257356 : H257352 r0 18 = z257334 := wq_u_s e257353
        refine wp_of e201 c201_34 (rw_iload_n (pc' := 35) (z := z257281) rfl rfl ?_)
        have k257357 : H257352 r0 17 = H257316 r0 17 := ((wq_u_j e257353 rfl).trans (f257333 r0 17 _ g0 rfl))
        have o257358 : (xtl B n q d) = (0, q, (xN B n (xN B n ((xN B n ((xN B n q))))))) := by
          unfold xtl xrg
          try simp only [xs_xs, xs_z]
          repeat first | rw [xs_0 (by omega)] | rw [xs_1 (by omega)] | rw [if_pos (by omega)] | rw [if_neg (by omega)]
          first | done | rfl | assumption | (exfalso; omega) | (refine Prod.ext ?_ (Prod.ext ?_ ?_) <;> (try dsimp only) <;> omega)
        have o257358a : ((xtl B n q d)).1 = 0 := by rw [o257358]
        have o257358b : ((xtl B n q d)).2.1 = q := by rw [o257358]
        have o257358c : ((xtl B n q d)).2.2 = (xN B n (xN B n ((xN B n ((xN B n q)))))) := by rw [o257358]
        have h257359 : RC T H257352 r0 B n (xN B n (xN B n ((xN B n ((xN B n q)))))) := (RC_fr w257332 g0 ((wfr.rf (l := [(42, 18)])).put' e257353 g0 rfl) rfl a257342)
        exact wp_ireturn e201 c201_35 rfl ⟨rfl, w257354, f257355, z257281, rfl, ⟨by omega, by omega⟩, (Or.inl ⟨by omega, by omega, o257358, by omega, by omega, by omega, by omega, by omega, by omega, by omega, h257359⟩)⟩
      · have f257360 := f257319.tr f257333 rfl
        show wp _ _ 201 31 [(1, vI z257281), (0, .ref r0)] [vI z257334, .ref r0] _ H257328 _
        have u257361 := RO_k a257345
        refine wp_of e201 c201_31 (xp_I (pc' := 34) lf_9_303 w257332 g0 sh_42 (by decide) (by decide) ty_42_18 rfl rfl (by omega) (by omega) ⟨by omega, by omega⟩ rfl (fun H257362 e257363 w257364 => ?_))
        have f257365 := f257360.put' e257363 g0 rfl
        have k257366 : H257362 r0 18 = z257334 := wq_u_s e257363
        refine wp_of e201 c201_34 (rw_iload_n (pc' := 35) (z := z257281) rfl rfl ?_)
        have o257367 : (xtl B n q d) = (xw B n ((xN B n ((xN B n q)))) 655, ((xN B n ((xN B n q)))), ((xN B n ((xN B n q))))) := by
          unfold xtl xrg
          try simp only [xs_xs, xs_z]
          repeat first | rw [xs_0 (by omega)] | rw [xs_1 (by omega)] | rw [if_pos (by omega)] | rw [if_neg (by omega)]
          first | done | rfl | assumption | (exfalso; omega) | (refine Prod.ext ?_ (Prod.ext ?_ ?_) <;> (try dsimp only) <;> omega)
        have o257367a : ((xtl B n q d)).1 = xw B n ((xN B n ((xN B n q)))) 655 := by rw [o257367]
        have o257367b : ((xtl B n q d)).2.1 = ((xN B n ((xN B n q)))) := by rw [o257367]
        have o257367c : ((xtl B n q d)).2.2 = ((xN B n ((xN B n q)))) := by rw [o257367]
        have h257368 : RO T H257362 r0 (xw B n ((xN B n ((xN B n q)))) 655) ((xN B n ((xN B n q)))) := (RO_fr w257332 g0 ((wfr.rf (l := [(42, 18)])).put' e257363 g0 rfl) rfl a257345)
        exact wp_ireturn e201 c201_35 rfl ⟨rfl, w257364, f257365, z257281, rfl, ⟨by omega, by omega⟩, (Or.inr ⟨by omega, by omega, RO_eq h257368 (by omega) (by omega)⟩)⟩
      · have f257369 := f257319.tr f257333 rfl
        show wp _ _ 201 31 [(1, vI z257281), (0, .ref r0)] [vI z257334, .ref r0] _ H257328 _
        have u257370 := RO_k a257349
        refine wp_of e201 c201_31 (xp_I (pc' := 34) lf_9_303 w257332 g0 sh_42 (by decide) (by decide) ty_42_18 rfl rfl (by omega) (by omega) ⟨by omega, by omega⟩ rfl (fun H257371 e257372 w257373 => ?_))
        have f257374 := f257369.put' e257372 g0 rfl
        have k257375 : H257371 r0 18 = z257334 := wq_u_s e257372
        refine wp_of e201 c201_34 (rw_iload_n (pc' := 35) (z := z257281) rfl rfl ?_)
        have o257376 : (xtl B n q d) = (xh B n (xN B n ((xN B n ((xN B n q))))) (xV B n (xN B n q) + 1) (min (xV B n (xN B n q) + 24) 24), (xN B n ((xN B n ((xN B n q))))), (xN B n ((xN B n ((xN B n q)))))) := by
          unfold xtl xrg
          try simp only [xs_xs, xs_z]
          repeat first | rw [xs_0 (by omega)] | rw [xs_1 (by omega)] | rw [if_pos (by omega)] | rw [if_neg (by omega)]
          first | done | rfl | assumption | (exfalso; omega) | (refine Prod.ext ?_ (Prod.ext ?_ ?_) <;> (try dsimp only) <;> omega)
        have o257376a : ((xtl B n q d)).1 = xh B n (xN B n ((xN B n ((xN B n q))))) (xV B n (xN B n q) + 1) (min (xV B n (xN B n q) + 24) 24) := by rw [o257376]
        have o257376b : ((xtl B n q d)).2.1 = (xN B n ((xN B n ((xN B n q))))) := by rw [o257376]
        have o257376c : ((xtl B n q d)).2.2 = (xN B n ((xN B n ((xN B n q))))) := by rw [o257376]
        have h257377 : RO T H257371 r0 (xh B n (xN B n ((xN B n ((xN B n q))))) (xV B n (xN B n q) + 1) (min (xV B n (xN B n q) + 24) 24)) (xN B n ((xN B n ((xN B n q))))) := (RO_fr w257332 g0 ((wfr.rf (l := [(42, 18)])).put' e257372 g0 rfl) rfl a257349)
        exact wp_ireturn e201 c201_35 rfl ⟨rfl, w257373, f257374, z257281, rfl, ⟨by omega, by omega⟩, (Or.inr ⟨by omega, by omega, RO_eq h257377 (by omega) (by omega)⟩)⟩
    · have f257378 := f257292.tr f257303 rfl
      show wp _ _ 201 13 [(1, vI z257281), (0, .ref r0)] [vI z257304, .ref r0] _ H257298 _
      have u257379 := RO_k a257313
      refine wp_of e201 c201_13 (xp_I (pc' := 16) lf_9_300 w257302 g0 sh_42 (by decide) (by decide) ty_42_17 rfl rfl (by omega) (by omega) ⟨by omega, by omega⟩ rfl (fun H257380 e257381 w257382 => ?_))
      have f257383 := f257378.put' e257381 g0 rfl
      have k257384 : H257380 r0 17 = z257304 := wq_u_s e257381
      refine wp_of e201 c201_16 (rw_aload_n (pc' := 17) (v := .ref r0) rfl rfl rfl ?_)
      refine wp_of e201 c201_17 (rw_aload_n (pc' := 18) (v := .ref r0) rfl rfl rfl ?_)
      refine wp_of e201 c201_18 (rw_ldcS (pc' := 20) (k := 87) rfl rfl rfl rfl ?_)
      refine wp_of e201 c201_20 (rw_aload_n (pc' := 21) (v := .ref r0) rfl rfl rfl ?_)
      refine wp_of e201 c201_21 (xg_I (pc' := 24) lf_9_300 w257382 g0 sh_42 (by decide) (by decide) ty_42_17 rfl rfl (fun b257385 b257386 => ?_))
      refine wp_of e201 c201_24 (rw_iconst (pc' := 25) rfl ?_)
      refine wp_of e201 c201_25 (rw_iadd (pc' := 26) rfl ?_)
      refine wp_of e201 c201_26 (rw_bipush (pc' := 28) (z := 24) rfl (by decide) ?_)
      have k257387 : H257380 r0 5 = H257275 r0 5 := ((wq_u_j e257381 rfl).trans (f257303 r0 5 _ g0 rfl))
      have q257388 : H257380 r0 5 = (rb : Int) := k257387.trans q257295
      have h257389 : RO T H257380 r0 (xh B n ((xN B n q)) 0 23) ((xN B n q)) := (RO_fr w257302 g0 ((wfr.rf (l := [(42, 17)])).put' e257381 g0 rfl) rfl a257313)
      refine wp_of e201 c201_28 (xc_V (pc' := 31) (r := r0) (as := [.ref 87, vI ((H257380 r0 17) + 1), vI 24]) (st := [.ref r0]) (lm_9_216) rfl rfl (Nat.le_of_ble_eq_true rfl) w257382 g0 sh_42 (by decide) rfl (by decide) (u_182_o (fo := (xh B n ((xN B n q)) 0 23)) (po := (((xN B n q)))) (kk := 655) w257382 g0 rfl ⟨by omega, by omega⟩ ⟨by omega, by omega⟩ q257388 grb (by decide +kernel) h257389) (fun R257390 T257391 H257392 p257393 => ?_))
      obtain ⟨e257394, e257396, z257397, e257395, b257398, p257399⟩ := p257393
      subst e257394
      subst e257395
      subst e257396
      obtain ⟨a257400, a257401⟩ := p257399
      show wp _ _ 201 31 [(1, vI z257281), (0, .ref r0)] [vI z257397, .ref r0] _ H257380 _
      have u257402 := RO_k a257401
      refine wp_of e201 c201_31 (xp_I (pc' := 34) lf_9_303 w257382 g0 sh_42 (by decide) (by decide) ty_42_18 rfl rfl (by omega) (by omega) ⟨by omega, by omega⟩ rfl (fun H257403 e257404 w257405 => ?_))
      have f257406 := f257383.put' e257404 g0 rfl
      have k257407 : H257403 r0 18 = z257397 := wq_u_s e257404
      refine wp_of e201 c201_34 (rw_iload_n (pc' := 35) (z := z257281) rfl rfl ?_)
      have o257408 : (xtl B n q d) = (xh B n ((xN B n q)) 0 23, ((xN B n q)), ((xN B n q))) := by
        unfold xtl xrg
        try simp only [xs_xs, xs_z]
        repeat first | rw [xs_0 (by omega)] | rw [xs_1 (by omega)] | rw [if_pos (by omega)] | rw [if_neg (by omega)]
        first | done | rfl | assumption | (exfalso; omega) | (refine Prod.ext ?_ (Prod.ext ?_ ?_) <;> (try dsimp only) <;> omega)
      have o257408a : ((xtl B n q d)).1 = xh B n ((xN B n q)) 0 23 := by rw [o257408]
      have o257408b : ((xtl B n q d)).2.1 = ((xN B n q)) := by rw [o257408]
      have o257408c : ((xtl B n q d)).2.2 = ((xN B n q)) := by rw [o257408]
      have h257409 : RO T H257403 r0 (xh B n ((xN B n q)) 0 23) (((xN B n q))) := (RO_fr w257382 g0 ((wfr.rf (l := [(42, 18)])).put' e257404 g0 rfl) rfl a257401)
      exact wp_ireturn e201 c201_35 rfl ⟨rfl, w257405, f257406, z257281, rfl, ⟨by omega, by omega⟩, (Or.inr ⟨by omega, by omega, RO_eq h257409 (by omega) (by omega)⟩)⟩
  · have f257410 := f0.tr f257280 rfl
    show wp _ _ 201 4 [(0, .ref r0)] [vI z257281] _ H257275 _
    have u257411 := RO_k a257291
    refine wp_of e201 c201_4 (rw_istore_n (pc' := 5) (z := z257281) (L' := [(1, vI z257281), (0, .ref r0)]) rfl rfl rfl ?_)
    refine wp_of e201 c201_5 (rw_aload_n (pc' := 6) (v := .ref r0) rfl rfl rfl ?_)
    refine wp_of e201 c201_6 (rw_aload_n (pc' := 7) (v := .ref r0) rfl rfl rfl ?_)
    refine wp_of e201 c201_7 (rw_iconst (pc' := 8) rfl ?_)
    refine wp_of e201 c201_8 (rw_bipush (pc' := 10) (z := 23) rfl (by decide) ?_)
    have k257412 : H257275 r0 5 = H r0 5 := (f257280 r0 5 _ g0 rfl)
    have q257413 : H257275 r0 5 = (rb : Int) := k257412.trans qrb
    refine wp_of e201 c201_10 (xc_V (pc' := 13) (r := r0) (as := [vI 0, vI 23]) (st := [.ref r0]) (lm_9_137) rfl rfl (Nat.le_of_ble_eq_true rfl) w257279 g0 sh_42 (by decide) rfl (by decide) (u_184_o (fo := (xkn B n q d)) (po := q) w257279 g0 ⟨by omega, by omega⟩ ⟨by omega, by omega⟩ q257413 grb a257291) (fun R257414 T257415 H257416 p257417 => ?_))
    obtain ⟨e257418, e257420, z257421, e257419, b257422, p257423⟩ := p257417
    subst e257418
    subst e257419
    subst e257420
    obtain ⟨a257424, a257425⟩ := p257423
    show wp _ _ 201 13 [(1, vI z257281), (0, .ref r0)] [vI z257421, .ref r0] _ H257275 _
    have u257426 := RO_k a257425
    refine wp_of e201 c201_13 (xp_I (pc' := 16) lf_9_300 w257279 g0 sh_42 (by decide) (by decide) ty_42_17 rfl rfl (by omega) (by omega) ⟨by omega, by omega⟩ rfl (fun H257427 e257428 w257429 => ?_))
    have f257430 := f257410.put' e257428 g0 rfl
    have k257431 : H257427 r0 17 = z257421 := wq_u_s e257428
    refine wp_of e201 c201_16 (rw_aload_n (pc' := 17) (v := .ref r0) rfl rfl rfl ?_)
    refine wp_of e201 c201_17 (rw_aload_n (pc' := 18) (v := .ref r0) rfl rfl rfl ?_)
    refine wp_of e201 c201_18 (rw_ldcS (pc' := 20) (k := 87) rfl rfl rfl rfl ?_)
    refine wp_of e201 c201_20 (rw_aload_n (pc' := 21) (v := .ref r0) rfl rfl rfl ?_)
    refine wp_of e201 c201_21 (xg_I (pc' := 24) lf_9_300 w257429 g0 sh_42 (by decide) (by decide) ty_42_17 rfl rfl (fun b257432 b257433 => ?_))
    refine wp_of e201 c201_24 (rw_iconst (pc' := 25) rfl ?_)
    refine wp_of e201 c201_25 (rw_iadd (pc' := 26) rfl ?_)
    refine wp_of e201 c201_26 (rw_bipush (pc' := 28) (z := 24) rfl (by decide) ?_)
    have k257434 : H257427 r0 5 = H257275 r0 5 := (wq_u_j e257428 rfl)
    have q257435 : H257427 r0 5 = (rb : Int) := k257434.trans q257413
    have h257436 : RO T H257427 r0 (xkn B n q d) q := (RO_fr w257279 g0 ((wfr.rf (l := [(42, 17)])).put' e257428 g0 rfl) rfl a257425)
    refine wp_of e201 c201_28 (xc_V (pc' := 31) (r := r0) (as := [.ref 87, vI ((H257427 r0 17) + 1), vI 24]) (st := [.ref r0]) (lm_9_216) rfl rfl (Nat.le_of_ble_eq_true rfl) w257429 g0 sh_42 (by decide) rfl (by decide) (u_182_o (fo := (xkn B n q d)) (po := q) (kk := 655) w257429 g0 rfl ⟨by omega, by omega⟩ ⟨by omega, by omega⟩ q257435 grb (by decide +kernel) h257436) (fun R257437 T257438 H257439 p257440 => ?_))
    obtain ⟨e257441, e257443, z257444, e257442, b257445, p257446⟩ := p257440
    subst e257441
    subst e257442
    subst e257443
    obtain ⟨a257447, a257448⟩ := p257446
    show wp _ _ 201 31 [(1, vI z257281), (0, .ref r0)] [vI z257444, .ref r0] _ H257427 _
    have u257449 := RO_k a257448
    refine wp_of e201 c201_31 (xp_I (pc' := 34) lf_9_303 w257429 g0 sh_42 (by decide) (by decide) ty_42_18 rfl rfl (by omega) (by omega) ⟨by omega, by omega⟩ rfl (fun H257450 e257451 w257452 => ?_))
    have f257453 := f257430.put' e257451 g0 rfl
    have k257454 : H257450 r0 18 = z257444 := wq_u_s e257451
    refine wp_of e201 c201_34 (rw_iload_n (pc' := 35) (z := z257281) rfl rfl ?_)
    have o257455 : (xtl B n q d) = (xkn B n q d, q, q) := by
      unfold xtl xrg
      try simp only [xs_xs, xs_z]
      repeat first | rw [xs_0 (by omega)] | rw [xs_1 (by omega)] | rw [if_pos (by omega)] | rw [if_neg (by omega)]
      first | done | rfl | assumption | (exfalso; omega) | (refine Prod.ext ?_ (Prod.ext ?_ ?_) <;> (try dsimp only) <;> omega)
    have o257455a : ((xtl B n q d)).1 = xkn B n q d := by rw [o257455]
    have o257455b : ((xtl B n q d)).2.1 = q := by rw [o257455]
    have o257455c : ((xtl B n q d)).2.2 = q := by rw [o257455]
    have h257456 : RO T H257450 r0 (xkn B n q d) q := (RO_fr w257429 g0 ((wfr.rf (l := [(42, 18)])).put' e257451 g0 rfl) rfl a257448)
    exact wp_ireturn e201 c201_35 rfl ⟨rfl, w257452, f257453, z257281, rfl, ⟨by omega, by omega⟩, (Or.inr ⟨by omega, by omega, RO_eq h257456 (by omega) (by omega)⟩)⟩
/-! StrikeAwakeModel.readHours()I o -/
abbrev uq_201_o (r0 : Nat) (rp : Nat) (rb : Nat) (fo : Int) (po : Int) (T : wq_T) (H : wq_H) : Option Value → wq_T → wq_H → Prop := fun r T' H' => T = T' ∧ WT T H' ∧ wfr [(42, 17), (42, 18)] T H H' ∧ ∃ z : Int, some (vI z) = r ∧ (0 ≤ z ∧ z ≤ 5) ∧ (((0 ≤ z ∧ z ≤ 5) ∧ RO T H' r0 fo po))
set_option maxHeartbeats 4000000 in
theorem u_201_o {kt : Nat → Option mc_E} {T : wq_T} {H : wq_H} {r0 : Nat} {rp : Nat} {rb : Nat} {fo : Int} {po : Int} (hW : WT T H) (g0 : T.2.2.2 r0 = some 42) (qrp : H r0 4 = (rp : Int)) (grp : T.2.2.2 rp = some 54) (qrb : H r0 5 = (rb : Int)) (grb : T.2.2.2 rb = some 43) (hRO_r0 : RO T H r0 fo po) : wpc kt 6 201 [.ref r0] T H (uq_201_o r0 rp rb fo po T H) := by
  refine wp_enter e201 (Nat.le_of_ble_eq_true rfl) rfl ?_
  have f0 : wfr [(42, 17), (42, 18)] T H H := wfr.rf
  show wp _ _ 201 0 [(0, .ref r0)] [] _ H _
  have u257507 := RO_k hRO_r0
  refine wp_of e201 c201_0 (rw_aload_n (pc' := 1) (v := .ref r0) rfl rfl rfl ?_)
  refine wp_of e201 c201_1 (xc_V (pc' := 4) (r := r0) (as := []) (st := []) (lm_9_273) rfl rfl (Nat.le_of_ble_eq_true rfl) hW g0 sh_42 (by decide) rfl (by decide) (u_194_o (fo := fo) (po := po) hW g0 qrp grp qrb grb hRO_r0) (fun R257508 T257509 H257510 p257511 => ?_))
  obtain ⟨e257512, e257514, z257515, e257513, b257516, p257517⟩ := p257511
  subst e257512
  subst e257513
  subst e257514
  obtain ⟨a257518, a257519⟩ := p257517
  show wp _ _ 201 4 [(0, .ref r0)] [vI z257515] _ H _
  have u257520 := RO_k a257519
  refine wp_of e201 c201_4 (rw_istore_n (pc' := 5) (z := z257515) (L' := [(1, vI z257515), (0, .ref r0)]) rfl rfl rfl ?_)
  refine wp_of e201 c201_5 (rw_aload_n (pc' := 6) (v := .ref r0) rfl rfl rfl ?_)
  refine wp_of e201 c201_6 (rw_aload_n (pc' := 7) (v := .ref r0) rfl rfl rfl ?_)
  refine wp_of e201 c201_7 (rw_iconst (pc' := 8) rfl ?_)
  refine wp_of e201 c201_8 (rw_bipush (pc' := 10) (z := 23) rfl (by decide) ?_)
  refine wp_of e201 c201_10 (xc_V (pc' := 13) (r := r0) (as := [vI 0, vI 23]) (st := [.ref r0]) (lm_9_137) rfl rfl (Nat.le_of_ble_eq_true rfl) hW g0 sh_42 (by decide) rfl (by decide) (u_184_o (fo := fo) (po := po) hW g0 ⟨by omega, by omega⟩ ⟨by omega, by omega⟩ qrb grb a257519) (fun R257521 T257522 H257523 p257524 => ?_))
  obtain ⟨e257525, e257527, z257528, e257526, b257529, p257530⟩ := p257524
  subst e257525
  subst e257526
  subst e257527
  obtain ⟨a257531, a257532⟩ := p257530
  show wp _ _ 201 13 [(1, vI z257515), (0, .ref r0)] [vI z257528, .ref r0] _ H _
  have u257533 := RO_k a257532
  refine wp_of e201 c201_13 (xp_I (pc' := 16) lf_9_300 hW g0 sh_42 (by decide) (by decide) ty_42_17 rfl rfl (by omega) (by omega) ⟨by omega, by omega⟩ rfl (fun H257534 e257535 w257536 => ?_))
  have f257537 := f0.put' e257535 g0 rfl
  have k257538 : H257534 r0 17 = z257528 := wq_u_s e257535
  refine wp_of e201 c201_16 (rw_aload_n (pc' := 17) (v := .ref r0) rfl rfl rfl ?_)
  refine wp_of e201 c201_17 (rw_aload_n (pc' := 18) (v := .ref r0) rfl rfl rfl ?_)
  refine wp_of e201 c201_18 (rw_ldcS (pc' := 20) (k := 87) rfl rfl rfl rfl ?_)
  refine wp_of e201 c201_20 (rw_aload_n (pc' := 21) (v := .ref r0) rfl rfl rfl ?_)
  refine wp_of e201 c201_21 (xg_I (pc' := 24) lf_9_300 w257536 g0 sh_42 (by decide) (by decide) ty_42_17 rfl rfl (fun b257539 b257540 => ?_))
  refine wp_of e201 c201_24 (rw_iconst (pc' := 25) rfl ?_)
  refine wp_of e201 c201_25 (rw_iadd (pc' := 26) rfl ?_)
  refine wp_of e201 c201_26 (rw_bipush (pc' := 28) (z := 24) rfl (by decide) ?_)
  have k257541 : H257534 r0 5 = H r0 5 := (wq_u_j e257535 rfl)
  have q257542 : H257534 r0 5 = (rb : Int) := k257541.trans qrb
  have h257543 : RO T H257534 r0 fo po := (RO_fr hW g0 ((wfr.rf (l := [(42, 17)])).put' e257535 g0 rfl) rfl a257532)
  refine wp_of e201 c201_28 (xc_V (pc' := 31) (r := r0) (as := [.ref 87, vI ((H257534 r0 17) + 1), vI 24]) (st := [.ref r0]) (lm_9_216) rfl rfl (Nat.le_of_ble_eq_true rfl) w257536 g0 sh_42 (by decide) rfl (by decide) (u_182_o (fo := fo) (po := po) (kk := 655) w257536 g0 rfl ⟨by omega, by omega⟩ ⟨by omega, by omega⟩ q257542 grb (by decide +kernel) h257543) (fun R257544 T257545 H257546 p257547 => ?_))
  obtain ⟨e257548, e257550, z257551, e257549, b257552, p257553⟩ := p257547
  subst e257548
  subst e257549
  subst e257550
  obtain ⟨a257554, a257555⟩ := p257553
  show wp _ _ 201 31 [(1, vI z257515), (0, .ref r0)] [vI z257551, .ref r0] _ H257534 _
  have u257556 := RO_k a257555
  refine wp_of e201 c201_31 (xp_I (pc' := 34) lf_9_303 w257536 g0 sh_42 (by decide) (by decide) ty_42_18 rfl rfl (by omega) (by omega) ⟨by omega, by omega⟩ rfl (fun H257557 e257558 w257559 => ?_))
  have f257560 := f257537.put' e257558 g0 rfl
  have k257561 : H257557 r0 18 = z257551 := wq_u_s e257558
  refine wp_of e201 c201_34 (rw_iload_n (pc' := 35) (z := z257515) rfl rfl ?_)
  have h257562 : RO T H257557 r0 fo po := (RO_fr w257536 g0 ((wfr.rf (l := [(42, 18)])).put' e257558 g0 rfl) rfl a257555)
  exact wp_ireturn e201 c201_35 rfl ⟨rfl, w257559, f257560, z257515, rfl, ⟨by omega, by omega⟩, ⟨by omega, h257562⟩⟩
/-! StrikeAwakeModel.readTold()V k -/
abbrev uq_200_k (r0 : Nat) (rp : Nat) (rb : Nat) (B : Nat → Int) (n : Int) (q : Int) (d : xD) (T : wq_T) (H : wq_H) : Option Value → wq_T → wq_H → Prop := fun r T' H' => T = T' ∧ WT T H' ∧ wfr [(54, 6), (42, 8), (42, 9), (42, 10), (42, 11), (42, 12), (42, 13), (42, 14), (42, 15), (42, 17), (42, 18), (68, 999), (69, 999)] T H H' ∧ none = r ∧ ((((xl6 B n q d).1 = 0) ∧ ((xl6 B n q d).2.2 = (xN B n (xN B n (xN B n (xN B n (xN B n q)))))) ∧ (q ≤ (xN B n (xN B n (xN B n (xN B n (xN B n q)))))) ∧ RC T H' r0 B n (xN B n (xN B n (xN B n (xN B n (xN B n q))))) ∧ DM T H' rp r0 (xdtl B n (xN B n q) d)) ∨ (((xl6 B n q d).1 ≠ 0) ∧ RO T H' r0 ((xl6 B n q d).1) ((xl6 B n q d).2.1)))
set_option maxHeartbeats 4000000 in
theorem u_200_k {kt : Nat → Option mc_E} {T : wq_T} {H : wq_H} {r0 : Nat} {rp : Nat} {rb : Nat} {B : Nat → Int} {n : Int} {q : Int} {d : xD} (hW : WT T H) (g0 : T.2.2.2 r0 = some 42) (qrp : H r0 4 = (rp : Int)) (grp : T.2.2.2 rp = some 54) (qrb : H r0 5 = (rb : Int)) (grb : T.2.2.2 rb = some 43) (p0 : xK B n q = 1) (hRC_r0 : RC T H r0 B n q) (hDM_rp : DM T H rp r0 d) : wpc kt 7 200 [.ref r0] T H (uq_200_k r0 rp rb B n q d T H) := by
  refine wp_enter e200 (Nat.le_of_ble_eq_true rfl) rfl ?_
  have f0 : wfr [(54, 6), (42, 8), (42, 9), (42, 10), (42, 11), (42, 12), (42, 13), (42, 14), (42, 15), (42, 17), (42, 18), (68, 999), (69, 999)] T H H := wfr.rf
  show wp _ _ 200 0 [(0, .ref r0)] [] _ H _
  have u257706 := RC_k hRC_r0
  have u257707 := DM_k hDM_rp
  have h257708 : MA9 T H rp (d 1) := hDM_rp.2.2.2.1
  have h257709 : MA10 T H rp (d 2) := hDM_rp.2.2.2.2.1
  have h257710 : MA11 T H rp (d 3) := hDM_rp.2.2.2.2.2.1
  have h257711 : MA12 T H rp (d 4) := hDM_rp.2.2.2.2.2.2.1
  have h257712 : MA13 T H rp (d 5) := hDM_rp.2.2.2.2.2.2.2.1
  have h257713 : MA14 T H rp (d 6) := hDM_rp.2.2.2.2.2.2.2.2.1
  have h257714 : MA15 T H rp (d 7) := hDM_rp.2.2.2.2.2.2.2.2.2.1
  have h257715 : MA16 T H rp (d 8) := hDM_rp.2.2.2.2.2.2.2.2.2.2.1
  have h257716 : MA17 T H rp (d 9) := hDM_rp.2.2.2.2.2.2.2.2.2.2.2.1
  have h257717 : MA18 T H rp (d 10) := hDM_rp.2.2.2.2.2.2.2.2.2.2.2.2.1
  have h257718 : MA19 T H rp (d 11) := hDM_rp.2.2.2.2.2.2.2.2.2.2.2.2.2.1
  have h257719 : MA20 T H rp (d 12) := hDM_rp.2.2.2.2.2.2.2.2.2.2.2.2.2.2.1
  have h257720 : MA21 T H rp (d 13) := hDM_rp.2.2.2.2.2.2.2.2.2.2.2.2.2.2.2.1
  have h257721 : MA22 T H rp (d 14) := hDM_rp.2.2.2.2.2.2.2.2.2.2.2.2.2.2.2.2.1
  have h257722 : MA23 T H rp (d 15) := hDM_rp.2.2.2.2.2.2.2.2.2.2.2.2.2.2.2.2.2.1
  have h257723 : MA25 T H rp (d 17) := hDM_rp.2.2.2.2.2.2.2.2.2.2.2.2.2.2.2.2.2.2.1
  have h257724 : MA26 T H rp (d 16) := hDM_rp.2.2.2.2.2.2.2.2.2.2.2.2.2.2.2.2.2.2.2
  refine wp_of e200 c200_0 (rw_aload_n (pc' := 1) (v := .ref r0) rfl rfl rfl ?_)
  refine wp_of e200 c200_1 (rw_aload_n (pc' := 2) (v := .ref r0) rfl rfl rfl ?_)
  refine wp_of e200 c200_2 (xg_K (pc' := 5) lf_9_166 hW g0 sh_42 (by decide) (by decide) rfl qrp rfl ?_)
  refine wp_of e200 c200_5 (xg_I (pc' := 8) lf_9_306 hW grp sh_54 (by decide) (by decide) ty_54_6 rfl rfl (fun b257725 b257726 => ?_))
  refine wp_of e200 c200_8 (rw_iconst (pc' := 9) rfl ?_)
  refine wp_of e200 c200_9 (xc_V (pc' := 12) (r := r0) (as := [vI (H rp 6), vI 4]) (st := []) (lm_9_228) rfl rfl (Nat.le_of_ble_eq_true rfl) hW g0 sh_42 (by decide) rfl (by decide) (u_188_k (B := B) (n := n) (q := q) hW g0 ⟨by omega, by omega⟩ ⟨by omega, by omega⟩ qrb grb (by omega) hRC_r0) (fun R257727 T257728 H257729 p257730 => ?_))
  obtain ⟨e257731, w257733, f257734, e257732, p257735⟩ := p257730
  subst e257731
  subst e257732
  rcases p257735 with ⟨a257736, a257737⟩ | ⟨a257738, a257739⟩
  · have f257740 := f0.tr f257734 rfl
    show wp _ _ 200 12 [(0, .ref r0)] [] _ H257729 _
    have u257741 := RC_k a257737
    refine wp_of e200 c200_12 (rw_aload_n (pc' := 13) (v := .ref r0) rfl rfl rfl ?_)
    have k257742 : H257729 r0 4 = H r0 4 := (f257734 r0 4 _ g0 rfl)
    have q257743 : H257729 r0 4 = (rp : Int) := k257742.trans qrp
    have k257744 : H257729 r0 5 = H r0 5 := (f257734 r0 5 _ g0 rfl)
    have q257745 : H257729 r0 5 = (rb : Int) := k257744.trans qrb
    have h257746 : DM T H257729 rp r0 d := (DM_fr hW grp f257734 rfl hDM_rp)
    refine wp_of e200 c200_13 (xc_V (pc' := 16) (r := r0) (as := []) (st := []) (lm_9_309) rfl rfl (Nat.le_of_ble_eq_true rfl) w257733 g0 sh_42 (by decide) rfl (by decide) (u_201_k (B := B) (n := n) (q := ((xN B n q))) (d := d) w257733 g0 q257743 grp q257745 grb a257737 h257746) (fun R257747 T257748 H257749 p257750 => ?_))
    obtain ⟨e257751, w257753, f257754, z257755, e257752, b257756, p257757⟩ := p257750
    subst e257751
    subst e257752
    rcases p257757 with ⟨a257758, a257759, a257760, a257761, a257762, a257763, a257764, a257765, a257766, a257767, a257768⟩ | ⟨a257769, a257770, a257771⟩
    · have f257772 := f257740.tr f257754 rfl
      show wp _ _ 200 16 [(0, .ref r0)] [vI z257755] _ H257749 _
      have u257773 := RC_k a257768
      refine wp_of e200 c200_16 (rw_istore_n (pc' := 17) (z := z257755) (L' := [(1, vI z257755), (0, .ref r0)]) rfl rfl rfl ?_)
      refine wp_of e200 c200_17 (rw_aload_n (pc' := 18) (v := .ref r0) rfl rfl rfl ?_)
      refine wp_of e200 c200_18 (xg_I (pc' := 21) lf_9_75 w257753 g0 sh_42 (by decide) (by decide) ty_42_9 rfl rfl (fun b257774 b257775 => ?_))
      refine wp_of e200 c200_21 (rw_iconst (pc' := 22) rfl ?_)
      refine wp_of e200 c200_22 (rw_icmp_ne (p1 := 26) (p2 := 25) (by decide) rfl ⟨by omega, by omega⟩ ⟨by omega, by omega⟩ (fun c257776 => ?_) (fun c257776 => ?_))
      · refine wp_of e200 c200_26 (rw_aload_n (pc' := 27) (v := .ref r0) rfl rfl rfl ?_)
        have k257777 : H257749 r0 4 = H257729 r0 4 := (f257754 r0 4 _ g0 rfl)
        have q257778 : H257749 r0 4 = (rp : Int) := k257777.trans q257743
        refine wp_of e200 c200_27 (xg_K (pc' := 30) lf_9_166 w257753 g0 sh_42 (by decide) (by decide) rfl q257778 rfl ?_)
        refine wp_of e200 c200_30 (xg_R (pc' := 33) lf_9_312 w257753 grp sh_54 (by decide) (by decide) ty_54_22 rfl rfl (fun r257779 q257780 g257781 => ?_))
        refine wp_of e200 c200_33 (rw_aload_n (pc' := 34) (v := .ref r0) rfl rfl rfl ?_)
        refine wp_of e200 c200_34 (xg_K (pc' := 37) lf_9_166 w257753 g0 sh_42 (by decide) (by decide) rfl q257778 rfl ?_)
        have k257782 : H257749 rp 6 = H rp 6 := ((f257754 rp 6 _ grp rfl).trans (f257734 rp 6 _ grp rfl))
        refine wp_of e200 c200_37 (xg_I (pc' := 40) lf_9_306 w257753 grp sh_54 (by decide) (by decide) ty_54_6 rfl rfl (fun b257783 b257784 => ?_))
        refine wp_of e200 c200_40 (rw_iload_n (pc' := 41) (z := z257755) rfl rfl ?_)
        have h257785 : MA22 T H257749 rp (d 14) := (MA22_fr w257733 grp f257754 rfl (MA22_fr hW grp f257734 rfl h257721))
        refine wp_of e200 c200_41 (xs_I (pc' := 42) w257753 g257781 (by decide) sh_68 (by decide) (ty_68 _) (by omega) (by omega) ⟨by omega, by omega⟩ (by omega) (by omega) rfl (fun H257786 e257787 w257788 => ?_))
        have f257789 := f257772.put' e257787 g257781 rfl
        have h257790 : MA22 T H257786 rp (xdtl B n (xN B n q) d 14) := MA_put h257785 q257780 grp g257781 (by decide) e257787 ((xdtl_c (k := ((H257749 rp 6).toNat)) (by omega)).1.trans (by omega)) (xdtl_c (k := ((H257749 rp 6).toNat)) (by omega)).2
        refine wp_of e200 c200_42 (rw_aload_n (pc' := 43) (v := .ref r0) rfl rfl rfl ?_)
        have k257791 : H257786 r0 4 = H257749 r0 4 := (wq_u_t e257787 g257781 g0 rfl 4)
        have q257792 : H257786 r0 4 = (rp : Int) := k257791.trans q257778
        refine wp_of e200 c200_43 (xg_K (pc' := 46) lf_9_166 w257788 g0 sh_42 (by decide) (by decide) rfl q257792 rfl ?_)
        refine wp_of e200 c200_46 (xg_R (pc' := 49) lf_9_315 w257788 grp sh_54 (by decide) (by decide) ty_54_23 rfl rfl (fun r257793 q257794 g257795 => ?_))
        refine wp_of e200 c200_49 (rw_aload_n (pc' := 50) (v := .ref r0) rfl rfl rfl ?_)
        refine wp_of e200 c200_50 (xg_K (pc' := 53) lf_9_166 w257788 g0 sh_42 (by decide) (by decide) rfl q257792 rfl ?_)
        have k257796 : H257786 rp 6 = H257749 rp 6 := (wq_u_t e257787 g257781 grp rfl 6)
        refine wp_of e200 c200_53 (xg_I (pc' := 56) lf_9_306 w257788 grp sh_54 (by decide) (by decide) ty_54_6 rfl rfl (fun b257797 b257798 => ?_))
        refine wp_of e200 c200_56 (rw_aload_n (pc' := 57) (v := .ref r0) rfl rfl rfl ?_)
        have k257799 : H257786 r0 17 = H257749 r0 17 := (wq_u_t e257787 g257781 g0 rfl 17)
        refine wp_of e200 c200_57 (xg_I (pc' := 60) lf_9_300 w257788 g0 sh_42 (by decide) (by decide) ty_42_17 rfl rfl (fun b257800 b257801 => ?_))
        refine wp_of e200 c200_60 (rw_aload_n (pc' := 61) (v := .ref r0) rfl rfl rfl ?_)
        have k257802 : H257786 r0 18 = H257749 r0 18 := (wq_u_t e257787 g257781 g0 rfl 18)
        refine wp_of e200 c200_61 (xg_I (pc' := 64) lf_9_303 w257788 g0 sh_42 (by decide) (by decide) ty_42_18 rfl rfl (fun b257803 b257804 => ?_))
        refine wp_of e200 c200_64 (xc_S (pc' := 67) (as := [vI (H257786 r0 17), vI (H257786 r0 18)]) (st := [vI (H257786 rp 6), .ref r257793]) (lm_9_318) rfl rfl (Nat.le_of_ble_eq_true rfl) rfl (by decide) (u_202 (lo := (xV B n (xN B n (xN B n q)))) (hi := (xV B n (xN B n (xN B n (xN B n (xN B n q)))))) w257788 ⟨by omega, by omega⟩ ⟨by omega, by omega⟩ (by omega) (by omega) (by omega)) (fun R257805 T257806 H257807 p257808 => ?_))
        obtain ⟨e257809, e257811, z257812, e257810, b257813, p257814⟩ := p257808
        subst e257809
        subst e257810
        subst e257811
        show wp _ _ 200 67 [(1, vI z257755), (0, .ref r0)] [vI z257812, vI (H257786 rp 6), .ref r257793] _ H257786 _
        have h257816 : MA23 T H257786 rp (d 15) := (MA23_fr w257753 grp ((wfr.rf (l := [(68, 999)])).put' e257787 g257781 rfl) rfl (MA23_fr w257733 grp f257754 rfl (MA23_fr hW grp f257734 rfl h257722)))
        refine wp_of e200 c200_67 (xs_I (pc' := 68) w257788 g257795 (by decide) sh_69 (by decide) (ty_69 _) (by omega) (by omega) ⟨by omega, by omega⟩ (by omega) (by omega) rfl (fun H257817 e257818 w257819 => ?_))
        have f257820 := f257789.put' e257818 g257795 rfl
        have h257821 : MA23 T H257817 rp (xdtl B n (xN B n q) d 15) := MA_put h257816 q257794 grp g257795 (by decide) e257818 ((xdtl_e (k := ((H257786 rp 6).toNat)) (by omega)).1.trans (by omega)) (xdtl_e (k := ((H257786 rp 6).toNat)) (by omega)).2
        refine wp_of e200 c200_68 (rw_aload_n (pc' := 69) (v := .ref r0) rfl rfl rfl ?_)
        have k257822 : H257817 r0 4 = H257786 r0 4 := (wq_u_t e257818 g257795 g0 rfl 4)
        have q257823 : H257817 r0 4 = (rp : Int) := k257822.trans q257792
        refine wp_of e200 c200_69 (xg_K (pc' := 72) lf_9_166 w257819 g0 sh_42 (by decide) (by decide) rfl q257823 rfl ?_)
        refine wp_of e200 c200_72 (rw_dup (pc' := 73) rfl rfl ?_)
        have k257824 : H257817 rp 6 = H257786 rp 6 := (wq_u_t e257818 g257795 grp rfl 6)
        refine wp_of e200 c200_73 (xg_I (pc' := 76) lf_9_306 w257819 grp sh_54 (by decide) (by decide) ty_54_6 rfl rfl (fun b257825 b257826 => ?_))
        refine wp_of e200 c200_76 (rw_iconst (pc' := 77) rfl ?_)
        refine wp_of e200 c200_77 (rw_iadd (pc' := 78) rfl ?_)
        refine wp_of e200 c200_78 (xp_I (pc' := 81) lf_9_306 w257819 grp sh_54 (by decide) (by decide) ty_54_6 rfl rfl (by omega) (by omega) ⟨by omega, by omega⟩ rfl (fun H257827 e257828 w257829 => ?_))
        have f257830 := f257820.put' e257828 grp rfl
        have k257831 : H257827 rp 6 = (H257817 rp 6) + 1 := wq_u_s e257828
        have k257832 : H257827 rp 0 = H rp 0 := ((wq_u_j e257828 rfl).trans ((wq_u_t e257818 g257795 grp rfl 0).trans ((wq_u_t e257787 g257781 grp rfl 0).trans ((f257754 rp 0 _ grp rfl).trans (f257734 rp 0 _ grp rfl)))))
        have k257833 : H257827 rp 1 = H rp 1 := ((wq_u_j e257828 rfl).trans ((wq_u_t e257818 g257795 grp rfl 1).trans ((wq_u_t e257787 g257781 grp rfl 1).trans ((f257754 rp 1 _ grp rfl).trans (f257734 rp 1 _ grp rfl)))))
        have k257834 : H257827 rp 2 = H rp 2 := ((wq_u_j e257828 rfl).trans ((wq_u_t e257818 g257795 grp rfl 2).trans ((wq_u_t e257787 g257781 grp rfl 2).trans ((f257754 rp 2 _ grp rfl).trans (f257734 rp 2 _ grp rfl)))))
        have k257835 : H257827 rp 3 = H rp 3 := ((wq_u_j e257828 rfl).trans ((wq_u_t e257818 g257795 grp rfl 3).trans ((wq_u_t e257787 g257781 grp rfl 3).trans ((f257754 rp 3 _ grp rfl).trans (f257734 rp 3 _ grp rfl)))))
        have k257836 : H257827 rp 4 = H rp 4 := ((wq_u_j e257828 rfl).trans ((wq_u_t e257818 g257795 grp rfl 4).trans ((wq_u_t e257787 g257781 grp rfl 4).trans ((f257754 rp 4 _ grp rfl).trans (f257734 rp 4 _ grp rfl)))))
        have k257837 : H257827 rp 5 = H rp 5 := ((wq_u_j e257828 rfl).trans ((wq_u_t e257818 g257795 grp rfl 5).trans ((wq_u_t e257787 g257781 grp rfl 5).trans ((f257754 rp 5 _ grp rfl).trans (f257734 rp 5 _ grp rfl)))))
        have k257838 : H257827 rp 7 = H rp 7 := ((wq_u_j e257828 rfl).trans ((wq_u_t e257818 g257795 grp rfl 7).trans ((wq_u_t e257787 g257781 grp rfl 7).trans ((f257754 rp 7 _ grp rfl).trans (f257734 rp 7 _ grp rfl)))))
        have k257839 : H257827 rp 8 = H rp 8 := ((wq_u_j e257828 rfl).trans ((wq_u_t e257818 g257795 grp rfl 8).trans ((wq_u_t e257787 g257781 grp rfl 8).trans ((f257754 rp 8 _ grp rfl).trans (f257734 rp 8 _ grp rfl)))))
        have k257840 : H257827 r0 16 = H r0 16 := ((wq_u_t e257828 grp g0 rfl 16).trans ((wq_u_t e257818 g257795 g0 rfl 16).trans ((wq_u_t e257787 g257781 g0 rfl 16).trans ((f257754 r0 16 _ g0 rfl).trans (f257734 r0 16 _ g0 rfl)))))
        have o257841 : (xl6 B n q d) = (0, ((xN B n q)), (xN B n (xN B n (xN B n (xN B n ((xN B n q))))))) := by
          unfold xl6
          repeat first | rw [xs_0 (by omega)] | rw [xs_1 (by omega)] | rw [if_pos (by omega)] | rw [if_neg (by omega)]
          first | done | rfl | assumption | (exfalso; omega) | (refine Prod.ext ?_ (Prod.ext ?_ ?_) <;> (try dsimp only) <;> omega)
        have o257841a : ((xl6 B n q d)).1 = 0 := by rw [o257841]
        have o257841b : ((xl6 B n q d)).2.1 = ((xN B n q)) := by rw [o257841]
        have o257841c : ((xl6 B n q d)).2.2 = (xN B n (xN B n (xN B n (xN B n ((xN B n q)))))) := by rw [o257841]
        have _l := @xdtl_v B n (xN B n q) d
        have h257842 : RC T H257827 r0 B n (xN B n (xN B n (xN B n (xN B n ((xN B n q)))))) := (RC_fr w257819 g0 ((wfr.rf (l := [(54, 6)])).put' e257828 grp rfl) rfl (RC_fr w257788 g0 ((wfr.rf (l := [(69, 999)])).put' e257818 g257795 rfl) rfl (RC_fr w257753 g0 ((wfr.rf (l := [(68, 999)])).put' e257787 g257781 rfl) rfl a257768)))
        have h257843 : MA9 T H257827 rp (d 1) := (MA9_fr w257819 grp ((wfr.rf (l := [(54, 6)])).put' e257828 grp rfl) rfl (MA9_fr w257788 grp ((wfr.rf (l := [(69, 999)])).put' e257818 g257795 rfl) rfl (MA9_fr w257753 grp ((wfr.rf (l := [(68, 999)])).put' e257787 g257781 rfl) rfl (MA9_fr w257733 grp f257754 rfl (MA9_fr hW grp f257734 rfl h257708)))))
        have h257844 : MA10 T H257827 rp (d 2) := (MA10_fr w257819 grp ((wfr.rf (l := [(54, 6)])).put' e257828 grp rfl) rfl (MA10_fr w257788 grp ((wfr.rf (l := [(69, 999)])).put' e257818 g257795 rfl) rfl (MA10_fr w257753 grp ((wfr.rf (l := [(68, 999)])).put' e257787 g257781 rfl) rfl (MA10_fr w257733 grp f257754 rfl (MA10_fr hW grp f257734 rfl h257709)))))
        have h257845 : MA11 T H257827 rp (d 3) := (MA11_fr w257819 grp ((wfr.rf (l := [(54, 6)])).put' e257828 grp rfl) rfl (MA11_fr w257788 grp ((wfr.rf (l := [(69, 999)])).put' e257818 g257795 rfl) rfl (MA11_fr w257753 grp ((wfr.rf (l := [(68, 999)])).put' e257787 g257781 rfl) rfl (MA11_fr w257733 grp f257754 rfl (MA11_fr hW grp f257734 rfl h257710)))))
        have h257846 : MA12 T H257827 rp (d 4) := (MA12_fr w257819 grp ((wfr.rf (l := [(54, 6)])).put' e257828 grp rfl) rfl (MA12_fr w257788 grp ((wfr.rf (l := [(69, 999)])).put' e257818 g257795 rfl) rfl (MA12_fr w257753 grp ((wfr.rf (l := [(68, 999)])).put' e257787 g257781 rfl) rfl (MA12_fr w257733 grp f257754 rfl (MA12_fr hW grp f257734 rfl h257711)))))
        have h257847 : MA13 T H257827 rp (d 5) := (MA13_fr w257819 grp ((wfr.rf (l := [(54, 6)])).put' e257828 grp rfl) rfl (MA13_fr w257788 grp ((wfr.rf (l := [(69, 999)])).put' e257818 g257795 rfl) rfl (MA13_fr w257753 grp ((wfr.rf (l := [(68, 999)])).put' e257787 g257781 rfl) rfl (MA13_fr w257733 grp f257754 rfl (MA13_fr hW grp f257734 rfl h257712)))))
        have h257848 : MA14 T H257827 rp (d 6) := (MA14_fr w257819 grp ((wfr.rf (l := [(54, 6)])).put' e257828 grp rfl) rfl (MA14_fr w257788 grp ((wfr.rf (l := [(69, 999)])).put' e257818 g257795 rfl) rfl (MA14_fr w257753 grp ((wfr.rf (l := [(68, 999)])).put' e257787 g257781 rfl) rfl (MA14_fr w257733 grp f257754 rfl (MA14_fr hW grp f257734 rfl h257713)))))
        have h257849 : MA15 T H257827 rp (d 7) := (MA15_fr w257819 grp ((wfr.rf (l := [(54, 6)])).put' e257828 grp rfl) rfl (MA15_fr w257788 grp ((wfr.rf (l := [(69, 999)])).put' e257818 g257795 rfl) rfl (MA15_fr w257753 grp ((wfr.rf (l := [(68, 999)])).put' e257787 g257781 rfl) rfl (MA15_fr w257733 grp f257754 rfl (MA15_fr hW grp f257734 rfl h257714)))))
        have h257850 : MA16 T H257827 rp (d 8) := (MA16_fr w257819 grp ((wfr.rf (l := [(54, 6)])).put' e257828 grp rfl) rfl (MA16_fr w257788 grp ((wfr.rf (l := [(69, 999)])).put' e257818 g257795 rfl) rfl (MA16_fr w257753 grp ((wfr.rf (l := [(68, 999)])).put' e257787 g257781 rfl) rfl (MA16_fr w257733 grp f257754 rfl (MA16_fr hW grp f257734 rfl h257715)))))
        have h257851 : MA17 T H257827 rp (d 9) := (MA17_fr w257819 grp ((wfr.rf (l := [(54, 6)])).put' e257828 grp rfl) rfl (MA17_fr w257788 grp ((wfr.rf (l := [(69, 999)])).put' e257818 g257795 rfl) rfl (MA17_fr w257753 grp ((wfr.rf (l := [(68, 999)])).put' e257787 g257781 rfl) rfl (MA17_fr w257733 grp f257754 rfl (MA17_fr hW grp f257734 rfl h257716)))))
        have h257852 : MA18 T H257827 rp (d 10) := (MA18_fr w257819 grp ((wfr.rf (l := [(54, 6)])).put' e257828 grp rfl) rfl (MA18_fr w257788 grp ((wfr.rf (l := [(69, 999)])).put' e257818 g257795 rfl) rfl (MA18_fr w257753 grp ((wfr.rf (l := [(68, 999)])).put' e257787 g257781 rfl) rfl (MA18_fr w257733 grp f257754 rfl (MA18_fr hW grp f257734 rfl h257717)))))
        have h257853 : MA19 T H257827 rp (d 11) := (MA19_fr w257819 grp ((wfr.rf (l := [(54, 6)])).put' e257828 grp rfl) rfl (MA19_fr w257788 grp ((wfr.rf (l := [(69, 999)])).put' e257818 g257795 rfl) rfl (MA19_fr w257753 grp ((wfr.rf (l := [(68, 999)])).put' e257787 g257781 rfl) rfl (MA19_fr w257733 grp f257754 rfl (MA19_fr hW grp f257734 rfl h257718)))))
        have h257854 : MA20 T H257827 rp (d 12) := (MA20_fr w257819 grp ((wfr.rf (l := [(54, 6)])).put' e257828 grp rfl) rfl (MA20_fr w257788 grp ((wfr.rf (l := [(69, 999)])).put' e257818 g257795 rfl) rfl (MA20_fr w257753 grp ((wfr.rf (l := [(68, 999)])).put' e257787 g257781 rfl) rfl (MA20_fr w257733 grp f257754 rfl (MA20_fr hW grp f257734 rfl h257719)))))
        have h257855 : MA21 T H257827 rp (d 13) := (MA21_fr w257819 grp ((wfr.rf (l := [(54, 6)])).put' e257828 grp rfl) rfl (MA21_fr w257788 grp ((wfr.rf (l := [(69, 999)])).put' e257818 g257795 rfl) rfl (MA21_fr w257753 grp ((wfr.rf (l := [(68, 999)])).put' e257787 g257781 rfl) rfl (MA21_fr w257733 grp f257754 rfl (MA21_fr hW grp f257734 rfl h257720)))))
        have h257856 : MA22 T H257827 rp (xdtl B n (xN B n q) d 14) := (MA22_fr w257819 grp ((wfr.rf (l := [(54, 6)])).put' e257828 grp rfl) rfl (MA22_fr w257788 grp ((wfr.rf (l := [(69, 999)])).put' e257818 g257795 rfl) rfl h257790))
        have h257857 : MA23 T H257827 rp (xdtl B n (xN B n q) d 15) := (MA23_fr w257819 grp ((wfr.rf (l := [(54, 6)])).put' e257828 grp rfl) rfl h257821)
        have h257858 : MA25 T H257827 rp (d 17) := (MA25_fr w257819 grp ((wfr.rf (l := [(54, 6)])).put' e257828 grp rfl) rfl (MA25_fr w257788 grp ((wfr.rf (l := [(69, 999)])).put' e257818 g257795 rfl) rfl (MA25_fr w257753 grp ((wfr.rf (l := [(68, 999)])).put' e257787 g257781 rfl) rfl (MA25_fr w257733 grp f257754 rfl (MA25_fr hW grp f257734 rfl h257723)))))
        have h257859 : MA26 T H257827 rp (d 16) := (MA26_fr w257819 grp ((wfr.rf (l := [(54, 6)])).put' e257828 grp rfl) rfl (MA26_fr w257788 grp ((wfr.rf (l := [(69, 999)])).put' e257818 g257795 rfl) rfl (MA26_fr w257753 grp ((wfr.rf (l := [(68, 999)])).put' e257787 g257781 rfl) rfl (MA26_fr w257733 grp f257754 rfl (MA26_fr hW grp f257734 rfl h257724)))))
        exact wp_return e200 c200_81 rfl ⟨rfl, w257829, f257830, rfl, (Or.inl ⟨by omega, by omega, by omega, h257842, DM_mk hDM_rp.1 ⟨by omega, by omega, by omega, by omega, by omega, by omega, by omega, by omega, by omega, by omega, by omega, by omega⟩ (xdP_cg hDM_rp.2.2.1 (fun i h1 h2 => by unfold xdtl; rw [wq_u_row (by omega), wq_u_row (by omega), wq_u_row (by omega)])) h257843 h257844 h257845 h257846 h257847 h257848 h257849 h257850 h257851 h257852 h257853 h257854 h257855 h257856 h257857 h257858 h257859 ⟨(by unfold xdtl; rw [wq_u_row (by decide), wq_u_row (by decide), wq_u_row (by decide)]), (by unfold xdtl; rw [wq_u_row (by decide), wq_u_row (by decide), wq_u_row (by decide)]), (by unfold xdtl; rw [wq_u_row (by decide), wq_u_row (by decide), wq_u_row (by decide)]), (by unfold xdtl; rw [wq_u_row (by decide), wq_u_row (by decide), wq_u_row (by decide)]), (by unfold xdtl; rw [wq_u_row (by decide), wq_u_row (by decide), wq_u_row (by decide)]), (by unfold xdtl; rw [wq_u_row (by decide), wq_u_row (by decide), wq_u_row (by decide)]), (by unfold xdtl; rw [wq_u_row (by decide), wq_u_row (by decide), wq_u_row (by decide)]), (by unfold xdtl; rw [wq_u_row (by decide), wq_u_row (by decide), wq_u_row (by decide)]), (by unfold xdtl; rw [wq_u_row (by decide), wq_u_row (by decide), wq_u_row (by decide)]), (by unfold xdtl; rw [wq_u_row (by decide), wq_u_row (by decide), wq_u_row (by decide)]), (by unfold xdtl; rw [wq_u_row (by decide), wq_u_row (by decide), wq_u_row (by decide)]), (by unfold xdtl; rw [wq_u_row (by decide), wq_u_row (by decide), wq_u_row (by decide)]), (by unfold xdtl; rw [wq_u_row (by decide), wq_u_row (by decide), wq_u_row (by decide)]), rfl, rfl, (by unfold xdtl; rw [wq_u_row (by decide), wq_u_row (by decide), wq_u_row (by decide)]), (by unfold xdtl; rw [wq_u_row (by decide), wq_u_row (by decide), wq_u_row (by decide)])⟩⟩)⟩
      · exfalso
        omega
    · have f257860 := f257740.tr f257754 rfl
      show wp _ _ 200 16 [(0, .ref r0)] [vI z257755] _ H257749 _
      have u257861 := RO_k a257771
      refine wp_of e200 c200_16 (rw_istore_n (pc' := 17) (z := z257755) (L' := [(1, vI z257755), (0, .ref r0)]) rfl rfl rfl ?_)
      refine wp_of e200 c200_17 (rw_aload_n (pc' := 18) (v := .ref r0) rfl rfl rfl ?_)
      refine wp_of e200 c200_18 (xg_I (pc' := 21) lf_9_75 w257753 g0 sh_42 (by decide) (by decide) ty_42_9 rfl rfl (fun b257862 b257863 => ?_))
      refine wp_of e200 c200_21 (rw_iconst (pc' := 22) rfl ?_)
      refine wp_of e200 c200_22 (rw_icmp_ne (p1 := 26) (p2 := 25) (by decide) rfl ⟨by omega, by omega⟩ ⟨by omega, by omega⟩ (fun c257864 => ?_) (fun c257864 => ?_))
      · exfalso
        omega
      · have o257865 : (xl6 B n q d) = ((xtl B n ((xN B n q)) d).1, (xtl B n ((xN B n q)) d).2.1, (xtl B n ((xN B n q)) d).2.2) := by
          unfold xl6
          repeat first | rw [xs_0 (by omega)] | rw [xs_1 (by omega)] | rw [if_pos (by omega)] | rw [if_neg (by omega)]
          first | done | rfl | assumption | (exfalso; omega) | (refine Prod.ext ?_ (Prod.ext ?_ ?_) <;> (try dsimp only) <;> omega)
        have o257865a : ((xl6 B n q d)).1 = (xtl B n ((xN B n q)) d).1 := by rw [o257865]
        have o257865b : ((xl6 B n q d)).2.1 = (xtl B n ((xN B n q)) d).2.1 := by rw [o257865]
        have o257865c : ((xl6 B n q d)).2.2 = (xtl B n ((xN B n q)) d).2.2 := by rw [o257865]
        exact wp_return e200 c200_25 rfl ⟨rfl, w257753, f257860, rfl, (Or.inr ⟨by omega, RO_eq a257771 (by omega) (by omega)⟩)⟩
  · have f257866 := f0.tr f257734 rfl
    show wp _ _ 200 12 [(0, .ref r0)] [] _ H257729 _
    have u257867 := RO_k a257739
    refine wp_of e200 c200_12 (rw_aload_n (pc' := 13) (v := .ref r0) rfl rfl rfl ?_)
    have k257868 : H257729 r0 4 = H r0 4 := (f257734 r0 4 _ g0 rfl)
    have q257869 : H257729 r0 4 = (rp : Int) := k257868.trans qrp
    have k257870 : H257729 r0 5 = H r0 5 := (f257734 r0 5 _ g0 rfl)
    have q257871 : H257729 r0 5 = (rb : Int) := k257870.trans qrb
    refine wp_of e200 c200_13 (xc_V (pc' := 16) (r := r0) (as := []) (st := []) (lm_9_309) rfl rfl (Nat.le_of_ble_eq_true rfl) w257733 g0 sh_42 (by decide) rfl (by decide) (u_201_o (fo := 5) (po := q) w257733 g0 q257869 grp q257871 grb a257739) (fun R257872 T257873 H257874 p257875 => ?_))
    obtain ⟨e257876, w257878, f257879, z257880, e257877, b257881, p257882⟩ := p257875
    subst e257876
    subst e257877
    obtain ⟨a257883, a257884⟩ := p257882
    have f257885 := f257866.tr f257879 rfl
    show wp _ _ 200 16 [(0, .ref r0)] [vI z257880] _ H257874 _
    have u257886 := RO_k a257884
    refine wp_of e200 c200_16 (rw_istore_n (pc' := 17) (z := z257880) (L' := [(1, vI z257880), (0, .ref r0)]) rfl rfl rfl ?_)
    refine wp_of e200 c200_17 (rw_aload_n (pc' := 18) (v := .ref r0) rfl rfl rfl ?_)
    refine wp_of e200 c200_18 (xg_I (pc' := 21) lf_9_75 w257878 g0 sh_42 (by decide) (by decide) ty_42_9 rfl rfl (fun b257887 b257888 => ?_))
    refine wp_of e200 c200_21 (rw_iconst (pc' := 22) rfl ?_)
    refine wp_of e200 c200_22 (rw_icmp_ne (p1 := 26) (p2 := 25) (by decide) rfl ⟨by omega, by omega⟩ ⟨by omega, by omega⟩ (fun c257889 => ?_) (fun c257889 => ?_))
    · exfalso
      omega
    · have o257890 : (xl6 B n q d) = (5, q, q) := by
        unfold xl6
        repeat first | rw [xs_0 (by omega)] | rw [xs_1 (by omega)] | rw [if_pos (by omega)] | rw [if_neg (by omega)]
        first | done | rfl | assumption | (exfalso; omega) | (refine Prod.ext ?_ (Prod.ext ?_ ?_) <;> (try dsimp only) <;> omega)
      have o257890a : ((xl6 B n q d)).1 = 5 := by rw [o257890]
      have o257890b : ((xl6 B n q d)).2.1 = q := by rw [o257890]
      have o257890c : ((xl6 B n q d)).2.2 = q := by rw [o257890]
      exact wp_return e200 c200_25 rfl ⟨rfl, w257878, f257885, rfl, (Or.inr ⟨by omega, RO_eq a257884 (by omega) (by omega)⟩)⟩
/-! StrikeAwakeModel.readTold()V o -/
abbrev uq_200_o (r0 : Nat) (rp : Nat) (rb : Nat) (fo : Int) (po : Int) (T : wq_T) (H : wq_H) : Option Value → wq_T → wq_H → Prop := fun r T' H' => T = T' ∧ WT T H' ∧ wfr [(42, 17), (42, 18)] T H H' ∧ none = r ∧ ((RO T H' r0 fo po))
set_option maxHeartbeats 4000000 in
theorem u_200_o {kt : Nat → Option mc_E} {T : wq_T} {H : wq_H} {r0 : Nat} {rp : Nat} {rb : Nat} {fo : Int} {po : Int} (hW : WT T H) (g0 : T.2.2.2 r0 = some 42) (qrp : H r0 4 = (rp : Int)) (grp : T.2.2.2 rp = some 54) (qrb : H r0 5 = (rb : Int)) (grb : T.2.2.2 rb = some 43) (hRO_r0 : RO T H r0 fo po) : wpc kt 7 200 [.ref r0] T H (uq_200_o r0 rp rb fo po T H) := by
  refine wp_enter e200 (Nat.le_of_ble_eq_true rfl) rfl ?_
  have f0 : wfr [(42, 17), (42, 18)] T H H := wfr.rf
  show wp _ _ 200 0 [(0, .ref r0)] [] _ H _
  have u257919 := RO_k hRO_r0
  refine wp_of e200 c200_0 (rw_aload_n (pc' := 1) (v := .ref r0) rfl rfl rfl ?_)
  refine wp_of e200 c200_1 (rw_aload_n (pc' := 2) (v := .ref r0) rfl rfl rfl ?_)
  refine wp_of e200 c200_2 (xg_K (pc' := 5) lf_9_166 hW g0 sh_42 (by decide) (by decide) rfl qrp rfl ?_)
  refine wp_of e200 c200_5 (xg_I (pc' := 8) lf_9_306 hW grp sh_54 (by decide) (by decide) ty_54_6 rfl rfl (fun b257920 b257921 => ?_))
  refine wp_of e200 c200_8 (rw_iconst (pc' := 9) rfl ?_)
  refine wp_of e200 c200_9 (xc_V (pc' := 12) (r := r0) (as := [vI (H rp 6), vI 4]) (st := []) (lm_9_228) rfl rfl (Nat.le_of_ble_eq_true rfl) hW g0 sh_42 (by decide) rfl (by decide) (u_188_o (fo := fo) (po := po) hW g0 ⟨by omega, by omega⟩ ⟨by omega, by omega⟩ qrb grb hRO_r0) (fun R257922 T257923 H257924 p257925 => ?_))
  obtain ⟨e257926, e257928, e257927, p257929⟩ := p257925
  subst e257926
  subst e257927
  subst e257928
  show wp _ _ 200 12 [(0, .ref r0)] [] _ H _
  have u257931 := RO_k p257929
  refine wp_of e200 c200_12 (rw_aload_n (pc' := 13) (v := .ref r0) rfl rfl rfl ?_)
  refine wp_of e200 c200_13 (xc_V (pc' := 16) (r := r0) (as := []) (st := []) (lm_9_309) rfl rfl (Nat.le_of_ble_eq_true rfl) hW g0 sh_42 (by decide) rfl (by decide) (u_201_o (fo := fo) (po := po) hW g0 qrp grp qrb grb p257929) (fun R257932 T257933 H257934 p257935 => ?_))
  obtain ⟨e257936, w257938, f257939, z257940, e257937, b257941, p257942⟩ := p257935
  subst e257936
  subst e257937
  obtain ⟨a257943, a257944⟩ := p257942
  have f257945 := f0.tr f257939 rfl
  show wp _ _ 200 16 [(0, .ref r0)] [vI z257940] _ H257934 _
  have u257946 := RO_k a257944
  refine wp_of e200 c200_16 (rw_istore_n (pc' := 17) (z := z257940) (L' := [(1, vI z257940), (0, .ref r0)]) rfl rfl rfl ?_)
  refine wp_of e200 c200_17 (rw_aload_n (pc' := 18) (v := .ref r0) rfl rfl rfl ?_)
  refine wp_of e200 c200_18 (xg_I (pc' := 21) lf_9_75 w257938 g0 sh_42 (by decide) (by decide) ty_42_9 rfl rfl (fun b257947 b257948 => ?_))
  refine wp_of e200 c200_21 (rw_iconst (pc' := 22) rfl ?_)
  refine wp_of e200 c200_22 (rw_icmp_ne (p1 := 26) (p2 := 25) (by decide) rfl ⟨by omega, by omega⟩ ⟨by omega, by omega⟩ (fun c257949 => ?_) (fun c257949 => ?_))
  · exfalso
    omega
  · exact wp_return e200 c200_25 rfl ⟨rfl, w257938, f257945, rfl, (a257944)⟩
/-! StrikeAwakeModel.readOffer()V k -/
abbrev uq_203_k (r0 : Nat) (rp : Nat) (rb : Nat) (B : Nat → Int) (n : Int) (q : Int) (d : xD) (T : wq_T) (H : wq_H) : Option Value → wq_T → wq_H → Prop := fun r T' H' => T = T' ∧ WT T H' ∧ wfr [(54, 7), (42, 8), (42, 9), (42, 10), (42, 11), (42, 12), (42, 13), (42, 14), (42, 15), (42, 17), (42, 18), (72, 999), (71, 999)] T H H' ∧ none = r ∧ ((((xl7 B n q d).1 = 0) ∧ ((xl7 B n q d).2.2 = (xN B n (xN B n (xN B n (xN B n (xN B n q)))))) ∧ (q ≤ (xN B n (xN B n (xN B n (xN B n (xN B n q)))))) ∧ RC T H' r0 B n (xN B n (xN B n (xN B n (xN B n (xN B n q))))) ∧ DM T H' rp r0 (xdof B n (xN B n q) d)) ∨ (((xl7 B n q d).1 ≠ 0) ∧ RO T H' r0 ((xl7 B n q d).1) ((xl7 B n q d).2.1)))
set_option maxHeartbeats 4000000 in
theorem u_203_k {kt : Nat → Option mc_E} {T : wq_T} {H : wq_H} {r0 : Nat} {rp : Nat} {rb : Nat} {B : Nat → Int} {n : Int} {q : Int} {d : xD} (hW : WT T H) (g0 : T.2.2.2 r0 = some 42) (qrp : H r0 4 = (rp : Int)) (grp : T.2.2.2 rp = some 54) (qrb : H r0 5 = (rb : Int)) (grb : T.2.2.2 rb = some 43) (p0 : xK B n q = 1) (hRC_r0 : RC T H r0 B n q) (hDM_rp : DM T H rp r0 d) : wpc kt 7 203 [.ref r0] T H (uq_203_k r0 rp rb B n q d T H) := by
  refine wp_enter e203 (Nat.le_of_ble_eq_true rfl) rfl ?_
  have f0 : wfr [(54, 7), (42, 8), (42, 9), (42, 10), (42, 11), (42, 12), (42, 13), (42, 14), (42, 15), (42, 17), (42, 18), (72, 999), (71, 999)] T H H := wfr.rf
  show wp _ _ 203 0 [(0, .ref r0)] [] _ H _
  have u258093 := RC_k hRC_r0
  have u258094 := DM_k hDM_rp
  have h258095 : MA9 T H rp (d 1) := hDM_rp.2.2.2.1
  have h258096 : MA10 T H rp (d 2) := hDM_rp.2.2.2.2.1
  have h258097 : MA11 T H rp (d 3) := hDM_rp.2.2.2.2.2.1
  have h258098 : MA12 T H rp (d 4) := hDM_rp.2.2.2.2.2.2.1
  have h258099 : MA13 T H rp (d 5) := hDM_rp.2.2.2.2.2.2.2.1
  have h258100 : MA14 T H rp (d 6) := hDM_rp.2.2.2.2.2.2.2.2.1
  have h258101 : MA15 T H rp (d 7) := hDM_rp.2.2.2.2.2.2.2.2.2.1
  have h258102 : MA16 T H rp (d 8) := hDM_rp.2.2.2.2.2.2.2.2.2.2.1
  have h258103 : MA17 T H rp (d 9) := hDM_rp.2.2.2.2.2.2.2.2.2.2.2.1
  have h258104 : MA18 T H rp (d 10) := hDM_rp.2.2.2.2.2.2.2.2.2.2.2.2.1
  have h258105 : MA19 T H rp (d 11) := hDM_rp.2.2.2.2.2.2.2.2.2.2.2.2.2.1
  have h258106 : MA20 T H rp (d 12) := hDM_rp.2.2.2.2.2.2.2.2.2.2.2.2.2.2.1
  have h258107 : MA21 T H rp (d 13) := hDM_rp.2.2.2.2.2.2.2.2.2.2.2.2.2.2.2.1
  have h258108 : MA22 T H rp (d 14) := hDM_rp.2.2.2.2.2.2.2.2.2.2.2.2.2.2.2.2.1
  have h258109 : MA23 T H rp (d 15) := hDM_rp.2.2.2.2.2.2.2.2.2.2.2.2.2.2.2.2.2.1
  have h258110 : MA25 T H rp (d 17) := hDM_rp.2.2.2.2.2.2.2.2.2.2.2.2.2.2.2.2.2.2.1
  have h258111 : MA26 T H rp (d 16) := hDM_rp.2.2.2.2.2.2.2.2.2.2.2.2.2.2.2.2.2.2.2
  refine wp_of e203 c203_0 (rw_aload_n (pc' := 1) (v := .ref r0) rfl rfl rfl ?_)
  refine wp_of e203 c203_1 (rw_aload_n (pc' := 2) (v := .ref r0) rfl rfl rfl ?_)
  refine wp_of e203 c203_2 (xg_K (pc' := 5) lf_9_166 hW g0 sh_42 (by decide) (by decide) rfl qrp rfl ?_)
  refine wp_of e203 c203_5 (xg_I (pc' := 8) lf_9_321 hW grp sh_54 (by decide) (by decide) ty_54_7 rfl rfl (fun b258112 b258113 => ?_))
  refine wp_of e203 c203_8 (rw_bipush (pc' := 10) (z := 6) rfl (by decide) ?_)
  refine wp_of e203 c203_10 (xc_V (pc' := 13) (r := r0) (as := [vI (H rp 7), vI 6]) (st := []) (lm_9_228) rfl rfl (Nat.le_of_ble_eq_true rfl) hW g0 sh_42 (by decide) rfl (by decide) (u_188_k (B := B) (n := n) (q := q) hW g0 ⟨by omega, by omega⟩ ⟨by omega, by omega⟩ qrb grb (by omega) hRC_r0) (fun R258114 T258115 H258116 p258117 => ?_))
  obtain ⟨e258118, w258120, f258121, e258119, p258122⟩ := p258117
  subst e258118
  subst e258119
  rcases p258122 with ⟨a258123, a258124⟩ | ⟨a258125, a258126⟩
  · have f258127 := f0.tr f258121 rfl
    show wp _ _ 203 13 [(0, .ref r0)] [] _ H258116 _
    have u258128 := RC_k a258124
    refine wp_of e203 c203_13 (rw_aload_n (pc' := 14) (v := .ref r0) rfl rfl rfl ?_)
    have k258129 : H258116 r0 4 = H r0 4 := (f258121 r0 4 _ g0 rfl)
    have q258130 : H258116 r0 4 = (rp : Int) := k258129.trans qrp
    have k258131 : H258116 r0 5 = H r0 5 := (f258121 r0 5 _ g0 rfl)
    have q258132 : H258116 r0 5 = (rb : Int) := k258131.trans qrb
    have h258133 : DM T H258116 rp r0 d := (DM_fr hW grp f258121 rfl hDM_rp)
    refine wp_of e203 c203_14 (xc_V (pc' := 17) (r := r0) (as := []) (st := []) (lm_9_309) rfl rfl (Nat.le_of_ble_eq_true rfl) w258120 g0 sh_42 (by decide) rfl (by decide) (u_201_k (B := B) (n := n) (q := ((xN B n q))) (d := d) w258120 g0 q258130 grp q258132 grb a258124 h258133) (fun R258134 T258135 H258136 p258137 => ?_))
    obtain ⟨e258138, w258140, f258141, z258142, e258139, b258143, p258144⟩ := p258137
    subst e258138
    subst e258139
    rcases p258144 with ⟨a258145, a258146, a258147, a258148, a258149, a258150, a258151, a258152, a258153, a258154, a258155⟩ | ⟨a258156, a258157, a258158⟩
    · have f258159 := f258127.tr f258141 rfl
      show wp _ _ 203 17 [(0, .ref r0)] [vI z258142] _ H258136 _
      have u258160 := RC_k a258155
      refine wp_of e203 c203_17 (rw_istore_n (pc' := 18) (z := z258142) (L' := [(1, vI z258142), (0, .ref r0)]) rfl rfl rfl ?_)
      refine wp_of e203 c203_18 (rw_aload_n (pc' := 19) (v := .ref r0) rfl rfl rfl ?_)
      refine wp_of e203 c203_19 (xg_I (pc' := 22) lf_9_75 w258140 g0 sh_42 (by decide) (by decide) ty_42_9 rfl rfl (fun b258161 b258162 => ?_))
      refine wp_of e203 c203_22 (rw_iconst (pc' := 23) rfl ?_)
      refine wp_of e203 c203_23 (rw_icmp_ne (p1 := 27) (p2 := 26) (by decide) rfl ⟨by omega, by omega⟩ ⟨by omega, by omega⟩ (fun c258163 => ?_) (fun c258163 => ?_))
      · refine wp_of e203 c203_27 (rw_aload_n (pc' := 28) (v := .ref r0) rfl rfl rfl ?_)
        have k258164 : H258136 r0 4 = H258116 r0 4 := (f258141 r0 4 _ g0 rfl)
        have q258165 : H258136 r0 4 = (rp : Int) := k258164.trans q258130
        refine wp_of e203 c203_28 (xg_K (pc' := 31) lf_9_166 w258140 g0 sh_42 (by decide) (by decide) rfl q258165 rfl ?_)
        refine wp_of e203 c203_31 (xg_R (pc' := 34) lf_9_324 w258140 grp sh_54 (by decide) (by decide) ty_54_25 rfl rfl (fun r258166 q258167 g258168 => ?_))
        refine wp_of e203 c203_34 (rw_aload_n (pc' := 35) (v := .ref r0) rfl rfl rfl ?_)
        refine wp_of e203 c203_35 (xg_K (pc' := 38) lf_9_166 w258140 g0 sh_42 (by decide) (by decide) rfl q258165 rfl ?_)
        have k258169 : H258136 rp 7 = H rp 7 := ((f258141 rp 7 _ grp rfl).trans (f258121 rp 7 _ grp rfl))
        refine wp_of e203 c203_38 (xg_I (pc' := 41) lf_9_321 w258140 grp sh_54 (by decide) (by decide) ty_54_7 rfl rfl (fun b258170 b258171 => ?_))
        refine wp_of e203 c203_41 (rw_iload_n (pc' := 42) (z := z258142) rfl rfl ?_)
        have h258172 : MA25 T H258136 rp (d 17) := (MA25_fr w258120 grp f258141 rfl (MA25_fr hW grp f258121 rfl h258110))
        refine wp_of e203 c203_42 (xs_I (pc' := 43) w258140 g258168 (by decide) sh_71 (by decide) (ty_71 _) (by omega) (by omega) ⟨by omega, by omega⟩ (by omega) (by omega) rfl (fun H258173 e258174 w258175 => ?_))
        have f258176 := f258159.put' e258174 g258168 rfl
        have h258177 : MA25 T H258173 rp (xdof B n (xN B n q) d 17) := MA_put h258172 q258167 grp g258168 (by decide) e258174 ((xdof_e (k := ((H258136 rp 7).toNat)) (by omega)).1.trans (by omega)) (xdof_e (k := ((H258136 rp 7).toNat)) (by omega)).2
        refine wp_of e203 c203_43 (rw_aload_n (pc' := 44) (v := .ref r0) rfl rfl rfl ?_)
        have k258178 : H258173 r0 4 = H258136 r0 4 := (wq_u_t e258174 g258168 g0 rfl 4)
        have q258179 : H258173 r0 4 = (rp : Int) := k258178.trans q258165
        refine wp_of e203 c203_44 (xg_K (pc' := 47) lf_9_166 w258175 g0 sh_42 (by decide) (by decide) rfl q258179 rfl ?_)
        refine wp_of e203 c203_47 (xg_R (pc' := 50) lf_9_327 w258175 grp sh_54 (by decide) (by decide) ty_54_26 rfl rfl (fun r258180 q258181 g258182 => ?_))
        refine wp_of e203 c203_50 (rw_aload_n (pc' := 51) (v := .ref r0) rfl rfl rfl ?_)
        refine wp_of e203 c203_51 (xg_K (pc' := 54) lf_9_166 w258175 g0 sh_42 (by decide) (by decide) rfl q258179 rfl ?_)
        have k258183 : H258173 rp 7 = H258136 rp 7 := (wq_u_t e258174 g258168 grp rfl 7)
        refine wp_of e203 c203_54 (xg_I (pc' := 57) lf_9_321 w258175 grp sh_54 (by decide) (by decide) ty_54_7 rfl rfl (fun b258184 b258185 => ?_))
        refine wp_of e203 c203_57 (rw_aload_n (pc' := 58) (v := .ref r0) rfl rfl rfl ?_)
        have k258186 : H258173 r0 17 = H258136 r0 17 := (wq_u_t e258174 g258168 g0 rfl 17)
        refine wp_of e203 c203_58 (xg_I (pc' := 61) lf_9_300 w258175 g0 sh_42 (by decide) (by decide) ty_42_17 rfl rfl (fun b258187 b258188 => ?_))
        refine wp_of e203 c203_61 (rw_aload_n (pc' := 62) (v := .ref r0) rfl rfl rfl ?_)
        have k258189 : H258173 r0 18 = H258136 r0 18 := (wq_u_t e258174 g258168 g0 rfl 18)
        refine wp_of e203 c203_62 (xg_I (pc' := 65) lf_9_303 w258175 g0 sh_42 (by decide) (by decide) ty_42_18 rfl rfl (fun b258190 b258191 => ?_))
        refine wp_of e203 c203_65 (xc_S (pc' := 68) (as := [vI (H258173 r0 17), vI (H258173 r0 18)]) (st := [vI (H258173 rp 7), .ref r258180]) (lm_9_318) rfl rfl (Nat.le_of_ble_eq_true rfl) rfl (by decide) (u_202 (lo := (xV B n (xN B n (xN B n q)))) (hi := (xV B n (xN B n (xN B n (xN B n (xN B n q)))))) w258175 ⟨by omega, by omega⟩ ⟨by omega, by omega⟩ (by omega) (by omega) (by omega)) (fun R258192 T258193 H258194 p258195 => ?_))
        obtain ⟨e258196, e258198, z258199, e258197, b258200, p258201⟩ := p258195
        subst e258196
        subst e258197
        subst e258198
        show wp _ _ 203 68 [(1, vI z258142), (0, .ref r0)] [vI z258199, vI (H258173 rp 7), .ref r258180] _ H258173 _
        have h258203 : MA26 T H258173 rp (d 16) := (MA26_fr w258140 grp ((wfr.rf (l := [(71, 999)])).put' e258174 g258168 rfl) rfl (MA26_fr w258120 grp f258141 rfl (MA26_fr hW grp f258121 rfl h258111)))
        refine wp_of e203 c203_68 (xs_I (pc' := 69) w258175 g258182 (by decide) sh_72 (by decide) (ty_72 _) (by omega) (by omega) ⟨by omega, by omega⟩ (by omega) (by omega) rfl (fun H258204 e258205 w258206 => ?_))
        have f258207 := f258176.put' e258205 g258182 rfl
        have h258208 : MA26 T H258204 rp (xdof B n (xN B n q) d 16) := MA_put h258203 q258181 grp g258182 (by decide) e258205 ((xdof_c (k := ((H258173 rp 7).toNat)) (by omega)).1.trans (by omega)) (xdof_c (k := ((H258173 rp 7).toNat)) (by omega)).2
        refine wp_of e203 c203_69 (rw_aload_n (pc' := 70) (v := .ref r0) rfl rfl rfl ?_)
        have k258209 : H258204 r0 4 = H258173 r0 4 := (wq_u_t e258205 g258182 g0 rfl 4)
        have q258210 : H258204 r0 4 = (rp : Int) := k258209.trans q258179
        refine wp_of e203 c203_70 (xg_K (pc' := 73) lf_9_166 w258206 g0 sh_42 (by decide) (by decide) rfl q258210 rfl ?_)
        refine wp_of e203 c203_73 (rw_dup (pc' := 74) rfl rfl ?_)
        have k258211 : H258204 rp 7 = H258173 rp 7 := (wq_u_t e258205 g258182 grp rfl 7)
        refine wp_of e203 c203_74 (xg_I (pc' := 77) lf_9_321 w258206 grp sh_54 (by decide) (by decide) ty_54_7 rfl rfl (fun b258212 b258213 => ?_))
        refine wp_of e203 c203_77 (rw_iconst (pc' := 78) rfl ?_)
        refine wp_of e203 c203_78 (rw_iadd (pc' := 79) rfl ?_)
        refine wp_of e203 c203_79 (xp_I (pc' := 82) lf_9_321 w258206 grp sh_54 (by decide) (by decide) ty_54_7 rfl rfl (by omega) (by omega) ⟨by omega, by omega⟩ rfl (fun H258214 e258215 w258216 => ?_))
        have f258217 := f258207.put' e258215 grp rfl
        have k258218 : H258214 rp 7 = (H258204 rp 7) + 1 := wq_u_s e258215
        have k258219 : H258214 rp 0 = H rp 0 := ((wq_u_j e258215 rfl).trans ((wq_u_t e258205 g258182 grp rfl 0).trans ((wq_u_t e258174 g258168 grp rfl 0).trans ((f258141 rp 0 _ grp rfl).trans (f258121 rp 0 _ grp rfl)))))
        have k258220 : H258214 rp 1 = H rp 1 := ((wq_u_j e258215 rfl).trans ((wq_u_t e258205 g258182 grp rfl 1).trans ((wq_u_t e258174 g258168 grp rfl 1).trans ((f258141 rp 1 _ grp rfl).trans (f258121 rp 1 _ grp rfl)))))
        have k258221 : H258214 rp 2 = H rp 2 := ((wq_u_j e258215 rfl).trans ((wq_u_t e258205 g258182 grp rfl 2).trans ((wq_u_t e258174 g258168 grp rfl 2).trans ((f258141 rp 2 _ grp rfl).trans (f258121 rp 2 _ grp rfl)))))
        have k258222 : H258214 rp 3 = H rp 3 := ((wq_u_j e258215 rfl).trans ((wq_u_t e258205 g258182 grp rfl 3).trans ((wq_u_t e258174 g258168 grp rfl 3).trans ((f258141 rp 3 _ grp rfl).trans (f258121 rp 3 _ grp rfl)))))
        have k258223 : H258214 rp 4 = H rp 4 := ((wq_u_j e258215 rfl).trans ((wq_u_t e258205 g258182 grp rfl 4).trans ((wq_u_t e258174 g258168 grp rfl 4).trans ((f258141 rp 4 _ grp rfl).trans (f258121 rp 4 _ grp rfl)))))
        have k258224 : H258214 rp 5 = H rp 5 := ((wq_u_j e258215 rfl).trans ((wq_u_t e258205 g258182 grp rfl 5).trans ((wq_u_t e258174 g258168 grp rfl 5).trans ((f258141 rp 5 _ grp rfl).trans (f258121 rp 5 _ grp rfl)))))
        have k258225 : H258214 rp 6 = H rp 6 := ((wq_u_j e258215 rfl).trans ((wq_u_t e258205 g258182 grp rfl 6).trans ((wq_u_t e258174 g258168 grp rfl 6).trans ((f258141 rp 6 _ grp rfl).trans (f258121 rp 6 _ grp rfl)))))
        have k258226 : H258214 rp 8 = H rp 8 := ((wq_u_j e258215 rfl).trans ((wq_u_t e258205 g258182 grp rfl 8).trans ((wq_u_t e258174 g258168 grp rfl 8).trans ((f258141 rp 8 _ grp rfl).trans (f258121 rp 8 _ grp rfl)))))
        have k258227 : H258214 r0 16 = H r0 16 := ((wq_u_t e258215 grp g0 rfl 16).trans ((wq_u_t e258205 g258182 g0 rfl 16).trans ((wq_u_t e258174 g258168 g0 rfl 16).trans ((f258141 r0 16 _ g0 rfl).trans (f258121 r0 16 _ g0 rfl)))))
        have o258228 : (xl7 B n q d) = (0, ((xN B n q)), (xN B n (xN B n (xN B n (xN B n ((xN B n q))))))) := by
          unfold xl7
          repeat first | rw [xs_0 (by omega)] | rw [xs_1 (by omega)] | rw [if_pos (by omega)] | rw [if_neg (by omega)]
          first | done | rfl | assumption | (exfalso; omega) | (refine Prod.ext ?_ (Prod.ext ?_ ?_) <;> (try dsimp only) <;> omega)
        have o258228a : ((xl7 B n q d)).1 = 0 := by rw [o258228]
        have o258228b : ((xl7 B n q d)).2.1 = ((xN B n q)) := by rw [o258228]
        have o258228c : ((xl7 B n q d)).2.2 = (xN B n (xN B n (xN B n (xN B n ((xN B n q)))))) := by rw [o258228]
        have _l := @xdof_v B n (xN B n q) d
        have h258229 : RC T H258214 r0 B n (xN B n (xN B n (xN B n (xN B n ((xN B n q)))))) := (RC_fr w258206 g0 ((wfr.rf (l := [(54, 7)])).put' e258215 grp rfl) rfl (RC_fr w258175 g0 ((wfr.rf (l := [(72, 999)])).put' e258205 g258182 rfl) rfl (RC_fr w258140 g0 ((wfr.rf (l := [(71, 999)])).put' e258174 g258168 rfl) rfl a258155)))
        have h258230 : MA9 T H258214 rp (d 1) := (MA9_fr w258206 grp ((wfr.rf (l := [(54, 7)])).put' e258215 grp rfl) rfl (MA9_fr w258175 grp ((wfr.rf (l := [(72, 999)])).put' e258205 g258182 rfl) rfl (MA9_fr w258140 grp ((wfr.rf (l := [(71, 999)])).put' e258174 g258168 rfl) rfl (MA9_fr w258120 grp f258141 rfl (MA9_fr hW grp f258121 rfl h258095)))))
        have h258231 : MA10 T H258214 rp (d 2) := (MA10_fr w258206 grp ((wfr.rf (l := [(54, 7)])).put' e258215 grp rfl) rfl (MA10_fr w258175 grp ((wfr.rf (l := [(72, 999)])).put' e258205 g258182 rfl) rfl (MA10_fr w258140 grp ((wfr.rf (l := [(71, 999)])).put' e258174 g258168 rfl) rfl (MA10_fr w258120 grp f258141 rfl (MA10_fr hW grp f258121 rfl h258096)))))
        have h258232 : MA11 T H258214 rp (d 3) := (MA11_fr w258206 grp ((wfr.rf (l := [(54, 7)])).put' e258215 grp rfl) rfl (MA11_fr w258175 grp ((wfr.rf (l := [(72, 999)])).put' e258205 g258182 rfl) rfl (MA11_fr w258140 grp ((wfr.rf (l := [(71, 999)])).put' e258174 g258168 rfl) rfl (MA11_fr w258120 grp f258141 rfl (MA11_fr hW grp f258121 rfl h258097)))))
        have h258233 : MA12 T H258214 rp (d 4) := (MA12_fr w258206 grp ((wfr.rf (l := [(54, 7)])).put' e258215 grp rfl) rfl (MA12_fr w258175 grp ((wfr.rf (l := [(72, 999)])).put' e258205 g258182 rfl) rfl (MA12_fr w258140 grp ((wfr.rf (l := [(71, 999)])).put' e258174 g258168 rfl) rfl (MA12_fr w258120 grp f258141 rfl (MA12_fr hW grp f258121 rfl h258098)))))
        have h258234 : MA13 T H258214 rp (d 5) := (MA13_fr w258206 grp ((wfr.rf (l := [(54, 7)])).put' e258215 grp rfl) rfl (MA13_fr w258175 grp ((wfr.rf (l := [(72, 999)])).put' e258205 g258182 rfl) rfl (MA13_fr w258140 grp ((wfr.rf (l := [(71, 999)])).put' e258174 g258168 rfl) rfl (MA13_fr w258120 grp f258141 rfl (MA13_fr hW grp f258121 rfl h258099)))))
        have h258235 : MA14 T H258214 rp (d 6) := (MA14_fr w258206 grp ((wfr.rf (l := [(54, 7)])).put' e258215 grp rfl) rfl (MA14_fr w258175 grp ((wfr.rf (l := [(72, 999)])).put' e258205 g258182 rfl) rfl (MA14_fr w258140 grp ((wfr.rf (l := [(71, 999)])).put' e258174 g258168 rfl) rfl (MA14_fr w258120 grp f258141 rfl (MA14_fr hW grp f258121 rfl h258100)))))
        have h258236 : MA15 T H258214 rp (d 7) := (MA15_fr w258206 grp ((wfr.rf (l := [(54, 7)])).put' e258215 grp rfl) rfl (MA15_fr w258175 grp ((wfr.rf (l := [(72, 999)])).put' e258205 g258182 rfl) rfl (MA15_fr w258140 grp ((wfr.rf (l := [(71, 999)])).put' e258174 g258168 rfl) rfl (MA15_fr w258120 grp f258141 rfl (MA15_fr hW grp f258121 rfl h258101)))))
        have h258237 : MA16 T H258214 rp (d 8) := (MA16_fr w258206 grp ((wfr.rf (l := [(54, 7)])).put' e258215 grp rfl) rfl (MA16_fr w258175 grp ((wfr.rf (l := [(72, 999)])).put' e258205 g258182 rfl) rfl (MA16_fr w258140 grp ((wfr.rf (l := [(71, 999)])).put' e258174 g258168 rfl) rfl (MA16_fr w258120 grp f258141 rfl (MA16_fr hW grp f258121 rfl h258102)))))
        have h258238 : MA17 T H258214 rp (d 9) := (MA17_fr w258206 grp ((wfr.rf (l := [(54, 7)])).put' e258215 grp rfl) rfl (MA17_fr w258175 grp ((wfr.rf (l := [(72, 999)])).put' e258205 g258182 rfl) rfl (MA17_fr w258140 grp ((wfr.rf (l := [(71, 999)])).put' e258174 g258168 rfl) rfl (MA17_fr w258120 grp f258141 rfl (MA17_fr hW grp f258121 rfl h258103)))))
        have h258239 : MA18 T H258214 rp (d 10) := (MA18_fr w258206 grp ((wfr.rf (l := [(54, 7)])).put' e258215 grp rfl) rfl (MA18_fr w258175 grp ((wfr.rf (l := [(72, 999)])).put' e258205 g258182 rfl) rfl (MA18_fr w258140 grp ((wfr.rf (l := [(71, 999)])).put' e258174 g258168 rfl) rfl (MA18_fr w258120 grp f258141 rfl (MA18_fr hW grp f258121 rfl h258104)))))
        have h258240 : MA19 T H258214 rp (d 11) := (MA19_fr w258206 grp ((wfr.rf (l := [(54, 7)])).put' e258215 grp rfl) rfl (MA19_fr w258175 grp ((wfr.rf (l := [(72, 999)])).put' e258205 g258182 rfl) rfl (MA19_fr w258140 grp ((wfr.rf (l := [(71, 999)])).put' e258174 g258168 rfl) rfl (MA19_fr w258120 grp f258141 rfl (MA19_fr hW grp f258121 rfl h258105)))))
        have h258241 : MA20 T H258214 rp (d 12) := (MA20_fr w258206 grp ((wfr.rf (l := [(54, 7)])).put' e258215 grp rfl) rfl (MA20_fr w258175 grp ((wfr.rf (l := [(72, 999)])).put' e258205 g258182 rfl) rfl (MA20_fr w258140 grp ((wfr.rf (l := [(71, 999)])).put' e258174 g258168 rfl) rfl (MA20_fr w258120 grp f258141 rfl (MA20_fr hW grp f258121 rfl h258106)))))
        have h258242 : MA21 T H258214 rp (d 13) := (MA21_fr w258206 grp ((wfr.rf (l := [(54, 7)])).put' e258215 grp rfl) rfl (MA21_fr w258175 grp ((wfr.rf (l := [(72, 999)])).put' e258205 g258182 rfl) rfl (MA21_fr w258140 grp ((wfr.rf (l := [(71, 999)])).put' e258174 g258168 rfl) rfl (MA21_fr w258120 grp f258141 rfl (MA21_fr hW grp f258121 rfl h258107)))))
        have h258243 : MA22 T H258214 rp (d 14) := (MA22_fr w258206 grp ((wfr.rf (l := [(54, 7)])).put' e258215 grp rfl) rfl (MA22_fr w258175 grp ((wfr.rf (l := [(72, 999)])).put' e258205 g258182 rfl) rfl (MA22_fr w258140 grp ((wfr.rf (l := [(71, 999)])).put' e258174 g258168 rfl) rfl (MA22_fr w258120 grp f258141 rfl (MA22_fr hW grp f258121 rfl h258108)))))
        have h258244 : MA23 T H258214 rp (d 15) := (MA23_fr w258206 grp ((wfr.rf (l := [(54, 7)])).put' e258215 grp rfl) rfl (MA23_fr w258175 grp ((wfr.rf (l := [(72, 999)])).put' e258205 g258182 rfl) rfl (MA23_fr w258140 grp ((wfr.rf (l := [(71, 999)])).put' e258174 g258168 rfl) rfl (MA23_fr w258120 grp f258141 rfl (MA23_fr hW grp f258121 rfl h258109)))))
        have h258245 : MA25 T H258214 rp (xdof B n (xN B n q) d 17) := (MA25_fr w258206 grp ((wfr.rf (l := [(54, 7)])).put' e258215 grp rfl) rfl (MA25_fr w258175 grp ((wfr.rf (l := [(72, 999)])).put' e258205 g258182 rfl) rfl h258177))
        have h258246 : MA26 T H258214 rp (xdof B n (xN B n q) d 16) := (MA26_fr w258206 grp ((wfr.rf (l := [(54, 7)])).put' e258215 grp rfl) rfl h258208)
        exact wp_return e203 c203_82 rfl ⟨rfl, w258216, f258217, rfl, (Or.inl ⟨by omega, by omega, by omega, h258229, DM_mk hDM_rp.1 ⟨by omega, by omega, by omega, by omega, by omega, by omega, by omega, by omega, by omega, by omega, by omega, by omega⟩ (xdP_cg hDM_rp.2.2.1 (fun i h1 h2 => by unfold xdof; rw [wq_u_row (by omega), wq_u_row (by omega), wq_u_row (by omega)])) h258230 h258231 h258232 h258233 h258234 h258235 h258236 h258237 h258238 h258239 h258240 h258241 h258242 h258243 h258244 h258245 h258246 ⟨(by unfold xdof; rw [wq_u_row (by decide), wq_u_row (by decide), wq_u_row (by decide)]), (by unfold xdof; rw [wq_u_row (by decide), wq_u_row (by decide), wq_u_row (by decide)]), (by unfold xdof; rw [wq_u_row (by decide), wq_u_row (by decide), wq_u_row (by decide)]), (by unfold xdof; rw [wq_u_row (by decide), wq_u_row (by decide), wq_u_row (by decide)]), (by unfold xdof; rw [wq_u_row (by decide), wq_u_row (by decide), wq_u_row (by decide)]), (by unfold xdof; rw [wq_u_row (by decide), wq_u_row (by decide), wq_u_row (by decide)]), (by unfold xdof; rw [wq_u_row (by decide), wq_u_row (by decide), wq_u_row (by decide)]), (by unfold xdof; rw [wq_u_row (by decide), wq_u_row (by decide), wq_u_row (by decide)]), (by unfold xdof; rw [wq_u_row (by decide), wq_u_row (by decide), wq_u_row (by decide)]), (by unfold xdof; rw [wq_u_row (by decide), wq_u_row (by decide), wq_u_row (by decide)]), (by unfold xdof; rw [wq_u_row (by decide), wq_u_row (by decide), wq_u_row (by decide)]), (by unfold xdof; rw [wq_u_row (by decide), wq_u_row (by decide), wq_u_row (by decide)]), (by unfold xdof; rw [wq_u_row (by decide), wq_u_row (by decide), wq_u_row (by decide)]), (by unfold xdof; rw [wq_u_row (by decide), wq_u_row (by decide), wq_u_row (by decide)]), (by unfold xdof; rw [wq_u_row (by decide), wq_u_row (by decide), wq_u_row (by decide)]), rfl, rfl⟩⟩)⟩
      · exfalso
        omega
    · have f258247 := f258127.tr f258141 rfl
      show wp _ _ 203 17 [(0, .ref r0)] [vI z258142] _ H258136 _
      have u258248 := RO_k a258158
      refine wp_of e203 c203_17 (rw_istore_n (pc' := 18) (z := z258142) (L' := [(1, vI z258142), (0, .ref r0)]) rfl rfl rfl ?_)
      refine wp_of e203 c203_18 (rw_aload_n (pc' := 19) (v := .ref r0) rfl rfl rfl ?_)
      refine wp_of e203 c203_19 (xg_I (pc' := 22) lf_9_75 w258140 g0 sh_42 (by decide) (by decide) ty_42_9 rfl rfl (fun b258249 b258250 => ?_))
      refine wp_of e203 c203_22 (rw_iconst (pc' := 23) rfl ?_)
      refine wp_of e203 c203_23 (rw_icmp_ne (p1 := 27) (p2 := 26) (by decide) rfl ⟨by omega, by omega⟩ ⟨by omega, by omega⟩ (fun c258251 => ?_) (fun c258251 => ?_))
      · exfalso
        omega
      · have o258252 : (xl7 B n q d) = ((xtl B n ((xN B n q)) d).1, (xtl B n ((xN B n q)) d).2.1, (xtl B n ((xN B n q)) d).2.2) := by
          unfold xl7
          repeat first | rw [xs_0 (by omega)] | rw [xs_1 (by omega)] | rw [if_pos (by omega)] | rw [if_neg (by omega)]
          first | done | rfl | assumption | (exfalso; omega) | (refine Prod.ext ?_ (Prod.ext ?_ ?_) <;> (try dsimp only) <;> omega)
        have o258252a : ((xl7 B n q d)).1 = (xtl B n ((xN B n q)) d).1 := by rw [o258252]
        have o258252b : ((xl7 B n q d)).2.1 = (xtl B n ((xN B n q)) d).2.1 := by rw [o258252]
        have o258252c : ((xl7 B n q d)).2.2 = (xtl B n ((xN B n q)) d).2.2 := by rw [o258252]
        exact wp_return e203 c203_26 rfl ⟨rfl, w258140, f258247, rfl, (Or.inr ⟨by omega, RO_eq a258158 (by omega) (by omega)⟩)⟩
  · have f258253 := f0.tr f258121 rfl
    show wp _ _ 203 13 [(0, .ref r0)] [] _ H258116 _
    have u258254 := RO_k a258126
    refine wp_of e203 c203_13 (rw_aload_n (pc' := 14) (v := .ref r0) rfl rfl rfl ?_)
    have k258255 : H258116 r0 4 = H r0 4 := (f258121 r0 4 _ g0 rfl)
    have q258256 : H258116 r0 4 = (rp : Int) := k258255.trans qrp
    have k258257 : H258116 r0 5 = H r0 5 := (f258121 r0 5 _ g0 rfl)
    have q258258 : H258116 r0 5 = (rb : Int) := k258257.trans qrb
    refine wp_of e203 c203_14 (xc_V (pc' := 17) (r := r0) (as := []) (st := []) (lm_9_309) rfl rfl (Nat.le_of_ble_eq_true rfl) w258120 g0 sh_42 (by decide) rfl (by decide) (u_201_o (fo := 5) (po := q) w258120 g0 q258256 grp q258258 grb a258126) (fun R258259 T258260 H258261 p258262 => ?_))
    obtain ⟨e258263, w258265, f258266, z258267, e258264, b258268, p258269⟩ := p258262
    subst e258263
    subst e258264
    obtain ⟨a258270, a258271⟩ := p258269
    have f258272 := f258253.tr f258266 rfl
    show wp _ _ 203 17 [(0, .ref r0)] [vI z258267] _ H258261 _
    have u258273 := RO_k a258271
    refine wp_of e203 c203_17 (rw_istore_n (pc' := 18) (z := z258267) (L' := [(1, vI z258267), (0, .ref r0)]) rfl rfl rfl ?_)
    refine wp_of e203 c203_18 (rw_aload_n (pc' := 19) (v := .ref r0) rfl rfl rfl ?_)
    refine wp_of e203 c203_19 (xg_I (pc' := 22) lf_9_75 w258265 g0 sh_42 (by decide) (by decide) ty_42_9 rfl rfl (fun b258274 b258275 => ?_))
    refine wp_of e203 c203_22 (rw_iconst (pc' := 23) rfl ?_)
    refine wp_of e203 c203_23 (rw_icmp_ne (p1 := 27) (p2 := 26) (by decide) rfl ⟨by omega, by omega⟩ ⟨by omega, by omega⟩ (fun c258276 => ?_) (fun c258276 => ?_))
    · exfalso
      omega
    · have o258277 : (xl7 B n q d) = (5, q, q) := by
        unfold xl7
        repeat first | rw [xs_0 (by omega)] | rw [xs_1 (by omega)] | rw [if_pos (by omega)] | rw [if_neg (by omega)]
        first | done | rfl | assumption | (exfalso; omega) | (refine Prod.ext ?_ (Prod.ext ?_ ?_) <;> (try dsimp only) <;> omega)
      have o258277a : ((xl7 B n q d)).1 = 5 := by rw [o258277]
      have o258277b : ((xl7 B n q d)).2.1 = q := by rw [o258277]
      have o258277c : ((xl7 B n q d)).2.2 = q := by rw [o258277]
      exact wp_return e203 c203_26 rfl ⟨rfl, w258265, f258272, rfl, (Or.inr ⟨by omega, RO_eq a258271 (by omega) (by omega)⟩)⟩
/-! StrikeAwakeModel.readOffer()V o -/
abbrev uq_203_o (r0 : Nat) (rp : Nat) (rb : Nat) (fo : Int) (po : Int) (T : wq_T) (H : wq_H) : Option Value → wq_T → wq_H → Prop := fun r T' H' => T = T' ∧ WT T H' ∧ wfr [(42, 17), (42, 18)] T H H' ∧ none = r ∧ ((RO T H' r0 fo po))
set_option maxHeartbeats 4000000 in
theorem u_203_o {kt : Nat → Option mc_E} {T : wq_T} {H : wq_H} {r0 : Nat} {rp : Nat} {rb : Nat} {fo : Int} {po : Int} (hW : WT T H) (g0 : T.2.2.2 r0 = some 42) (qrp : H r0 4 = (rp : Int)) (grp : T.2.2.2 rp = some 54) (qrb : H r0 5 = (rb : Int)) (grb : T.2.2.2 rb = some 43) (hRO_r0 : RO T H r0 fo po) : wpc kt 7 203 [.ref r0] T H (uq_203_o r0 rp rb fo po T H) := by
  refine wp_enter e203 (Nat.le_of_ble_eq_true rfl) rfl ?_
  have f0 : wfr [(42, 17), (42, 18)] T H H := wfr.rf
  show wp _ _ 203 0 [(0, .ref r0)] [] _ H _
  have u258306 := RO_k hRO_r0
  refine wp_of e203 c203_0 (rw_aload_n (pc' := 1) (v := .ref r0) rfl rfl rfl ?_)
  refine wp_of e203 c203_1 (rw_aload_n (pc' := 2) (v := .ref r0) rfl rfl rfl ?_)
  refine wp_of e203 c203_2 (xg_K (pc' := 5) lf_9_166 hW g0 sh_42 (by decide) (by decide) rfl qrp rfl ?_)
  refine wp_of e203 c203_5 (xg_I (pc' := 8) lf_9_321 hW grp sh_54 (by decide) (by decide) ty_54_7 rfl rfl (fun b258307 b258308 => ?_))
  refine wp_of e203 c203_8 (rw_bipush (pc' := 10) (z := 6) rfl (by decide) ?_)
  refine wp_of e203 c203_10 (xc_V (pc' := 13) (r := r0) (as := [vI (H rp 7), vI 6]) (st := []) (lm_9_228) rfl rfl (Nat.le_of_ble_eq_true rfl) hW g0 sh_42 (by decide) rfl (by decide) (u_188_o (fo := fo) (po := po) hW g0 ⟨by omega, by omega⟩ ⟨by omega, by omega⟩ qrb grb hRO_r0) (fun R258309 T258310 H258311 p258312 => ?_))
  obtain ⟨e258313, e258315, e258314, p258316⟩ := p258312
  subst e258313
  subst e258314
  subst e258315
  show wp _ _ 203 13 [(0, .ref r0)] [] _ H _
  have u258318 := RO_k p258316
  refine wp_of e203 c203_13 (rw_aload_n (pc' := 14) (v := .ref r0) rfl rfl rfl ?_)
  refine wp_of e203 c203_14 (xc_V (pc' := 17) (r := r0) (as := []) (st := []) (lm_9_309) rfl rfl (Nat.le_of_ble_eq_true rfl) hW g0 sh_42 (by decide) rfl (by decide) (u_201_o (fo := fo) (po := po) hW g0 qrp grp qrb grb p258316) (fun R258319 T258320 H258321 p258322 => ?_))
  obtain ⟨e258323, w258325, f258326, z258327, e258324, b258328, p258329⟩ := p258322
  subst e258323
  subst e258324
  obtain ⟨a258330, a258331⟩ := p258329
  have f258332 := f0.tr f258326 rfl
  show wp _ _ 203 17 [(0, .ref r0)] [vI z258327] _ H258321 _
  have u258333 := RO_k a258331
  refine wp_of e203 c203_17 (rw_istore_n (pc' := 18) (z := z258327) (L' := [(1, vI z258327), (0, .ref r0)]) rfl rfl rfl ?_)
  refine wp_of e203 c203_18 (rw_aload_n (pc' := 19) (v := .ref r0) rfl rfl rfl ?_)
  refine wp_of e203 c203_19 (xg_I (pc' := 22) lf_9_75 w258325 g0 sh_42 (by decide) (by decide) ty_42_9 rfl rfl (fun b258334 b258335 => ?_))
  refine wp_of e203 c203_22 (rw_iconst (pc' := 23) rfl ?_)
  refine wp_of e203 c203_23 (rw_icmp_ne (p1 := 27) (p2 := 26) (by decide) rfl ⟨by omega, by omega⟩ ⟨by omega, by omega⟩ (fun c258336 => ?_) (fun c258336 => ?_))
  · exfalso
    omega
  · exact wp_return e203 c203_26 rfl ⟨rfl, w258325, f258332, rfl, (a258331)⟩
