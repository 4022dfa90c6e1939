/-! what methods do (own work, written by wip/gen3/sx3.py) -/
/-! StrikeAwakeModel.readPerson()V o -/
abbrev uq_187_o (r0 : Nat) (rp : Nat) (rb : Nat) (fo : Int) (po : Int) (T : wq_T) (H : wq_H) : Option Value → wq_T → wq_H → Prop := fun r T' H' => T = T' ∧ H = H' ∧ none = r ∧ ((RO T H r0 fo po))
set_option maxHeartbeats 4000000 in
theorem u_187_o {kt : Nat → Option mc_E} {T : wq_T} {H : wq_H} {r0 : Nat} {rp : Nat} {rb : Nat} {fo : Int} {po : Int} (hW : WT T H) (g0 : T.2.2.2 r0 = some 42) (qrp : H r0 4 = (rp : Int)) (grp : T.2.2.2 rp = some 54) (qrb : H r0 5 = (rb : Int)) (grb : T.2.2.2 rb = some 43) (hRO_r0 : RO T H r0 fo po) : wpc kt 5 187 [.ref r0] T H (uq_187_o r0 rp rb fo po T H) := by
  refine wp_enter e187 (Nat.le_of_ble_eq_true rfl) rfl ?_
  show wp _ _ 187 0 [(0, .ref r0)] [] _ H _
  have u302 := RO_k hRO_r0
  refine wp_of e187 c187_0 (rw_aload_n (pc' := 1) (v := .ref r0) rfl rfl rfl ?_)
  refine wp_of e187 c187_1 (rw_aload_n (pc' := 2) (v := .ref r0) rfl rfl rfl ?_)
  refine wp_of e187 c187_2 (xg_K (pc' := 5) lf_9_166 hW g0 sh_42 (by decide) (by decide) rfl qrp rfl ?_)
  refine wp_of e187 c187_5 (xg_I (pc' := 8) lf_9_188 hW grp sh_54 (by decide) (by decide) ty_54_3 rfl rfl (fun b303 b304 => ?_))
  refine wp_of e187 c187_8 (rw_bipush (pc' := 10) (z := 6) rfl (by decide) ?_)
  refine wp_of e187 c187_10 (xc_V (pc' := 13) (r := r0) (as := [vI (H rp 3), vI 6]) (st := []) (lm_9_228) rfl rfl (Nat.le_of_ble_eq_true rfl) hW g0 sh_42 (by decide) rfl (by decide) (u_188_o (fo := fo) (po := po) hW g0 ⟨by omega, by omega⟩ ⟨by omega, by omega⟩ qrb grb hRO_r0) (fun R305 T306 H307 p308 => ?_))
  obtain ⟨e309, e311, e310, p312⟩ := p308
  subst e309
  subst e310
  subst e311
  show wp _ _ 187 13 [(0, .ref r0)] [] _ H _
  have u314 := RO_k p312
  refine wp_of e187 c187_13 (rw_aload_n (pc' := 14) (v := .ref r0) rfl rfl rfl ?_)
  refine wp_of e187 c187_14 (xc_V (pc' := 17) (r := r0) (as := []) (st := []) (lm_9_162) rfl rfl (Nat.le_of_ble_eq_true rfl) hW g0 sh_42 (by decide) rfl (by decide) (u_189_o (fo := fo) (po := po) hW g0 p312) (fun R315 T316 H317 p318 => ?_))
  obtain ⟨e319, e321, z322, e320, b323, p324⟩ := p318
  subst e319
  subst e320
  subst e321
  show wp _ _ 187 17 [(0, .ref r0)] [vI z322] _ H _
  refine wp_of e187 c187_17 (rw_if_ne (p1 := 25) (p2 := 20) (by decide) rfl ⟨by omega, by omega⟩ (fun c326 => ?_) (fun c326 => ?_))
  · exfalso
    omega
  · refine wp_of e187 c187_20 (rw_aload_n (pc' := 21) (v := .ref r0) rfl rfl rfl ?_)
    refine wp_of e187 c187_21 (rw_iconst (pc' := 22) rfl ?_)
    refine wp_of e187 c187_22 (xc_V (pc' := 25) (r := r0) (as := [vI 1]) (st := []) (lm_9_121) rfl rfl (Nat.le_of_ble_eq_true rfl) hW g0 sh_42 (by decide) rfl (by decide) (u_181_o (fo := fo) (po := po) hW g0 ⟨by omega, by omega⟩ p312) (fun R327 T328 H329 p330 => ?_))
    obtain ⟨e331, e333, e332, p334⟩ := p330
    subst e331
    subst e332
    subst e333
    show wp _ _ 187 25 [(0, .ref r0)] [] _ H _
    have u336 := RO_k p334
    refine wp_of e187 c187_25 (rw_aload_n (pc' := 26) (v := .ref r0) rfl rfl rfl ?_)
    refine wp_of e187 c187_26 (xg_K (pc' := 29) lf_9_166 hW g0 sh_42 (by decide) (by decide) rfl qrp rfl ?_)
    refine wp_of e187 c187_29 (rw_aload_n (pc' := 30) (v := .ref r0) rfl rfl rfl ?_)
    refine wp_of e187 c187_30 (xg_L (pc' := 33) lf_9_94 hW g0 sh_42 (by decide) (by decide) ty_42_15 rfl rfl (fun b337 b338 => ?_))
    refine wp_of e187 c187_33 (xc_V (pc' := 36) (r := rp) (as := [vL (H r0 15)]) (st := []) (lm_9_170) rfl rfl (Nat.le_of_ble_eq_true rfl) hW grp sh_54 (by decide) rfl (by decide) (u_190_o  hW grp ⟨by omega, by omega⟩) (fun R339 T340 H341 p342 => ?_))
    obtain ⟨e343, e345, z346, e344, b347, p348⟩ := p342
    subst e343
    subst e344
    subst e345
    show wp _ _ 187 36 [(0, .ref r0)] [vI z346] _ H _
    refine wp_of e187 c187_36 (rw_iconst (pc' := 37) rfl ?_)
    refine wp_of e187 c187_37 (rw_icmp_eq (p1 := 45) (p2 := 40) (by decide) rfl ⟨by omega, by omega⟩ ⟨by omega, by omega⟩ (fun c350 => ?_) (fun c350 => ?_))
    · refine wp_of e187 c187_45 (rw_aload_n (pc' := 46) (v := .ref r0) rfl rfl rfl ?_)
      refine wp_of e187 c187_46 (xg_L (pc' := 49) lf_9_94 hW g0 sh_42 (by decide) (by decide) ty_42_15 rfl rfl (fun b351 b352 => ?_))
      refine wp_of e187 c187_49 (rw_lstore_n (pc' := 50) (z := H r0 15) (L' := [(1, vL (H r0 15)), (0, .ref r0)]) rfl rfl rfl ?_)
      refine wp_of e187 c187_50 (rw_aload_n (pc' := 51) (v := .ref r0) rfl rfl rfl ?_)
      refine wp_of e187 c187_51 (xc_V (pc' := 54) (r := r0) (as := []) (st := []) (lm_9_118) rfl rfl (Nat.le_of_ble_eq_true rfl) hW g0 sh_42 (by decide) rfl (by decide) (u_172_o (fo := fo) (po := po) hW g0 p334) (fun R353 T354 H355 p356 => ?_))
      obtain ⟨e357, e359, e358, p360⟩ := p356
      subst e357
      subst e358
      subst e359
      show wp _ _ 187 54 [(1, vL (H r0 15)), (0, .ref r0)] [] _ H _
      have u362 := RO_k p360
      refine wp_of e187 c187_54 (rw_aload_n (pc' := 55) (v := .ref r0) rfl rfl rfl ?_)
      refine wp_of e187 c187_55 (rw_ldcS (pc' := 57) (k := 86) rfl rfl rfl rfl ?_)
      refine wp_of e187 c187_57 (rw_iconst (pc' := 58) rfl ?_)
      refine wp_of e187 c187_58 (rw_bipush (pc' := 60) (z := 23) rfl (by decide) ?_)
      refine wp_of e187 c187_60 (xc_V (pc' := 63) (r := r0) (as := [.ref 86, vI 0, vI 23]) (st := []) (lm_9_216) rfl rfl (Nat.le_of_ble_eq_true rfl) hW g0 sh_42 (by decide) rfl (by decide) (u_182_o (fo := fo) (po := po) (kk := 2212) hW g0 rfl ⟨by omega, by omega⟩ ⟨by omega, by omega⟩ qrb grb (by decide +kernel) p360) (fun R363 T364 H365 p366 => ?_))
      obtain ⟨e367, e369, z370, e368, b371, p372⟩ := p366
      subst e367
      subst e368
      subst e369
      obtain ⟨a373, a374⟩ := p372
      show wp _ _ 187 63 [(1, vL (H r0 15)), (0, .ref r0)] [vI z370] _ H _
      have u375 := RO_k a374
      refine wp_of e187 c187_63 (rw_istore_n (pc' := 64) (z := z370) (L' := [(3, vI z370), (1, vL (H r0 15)), (0, .ref r0)]) rfl rfl rfl ?_)
      refine wp_of e187 c187_64 (rw_aload_n (pc' := 65) (v := .ref r0) rfl rfl rfl ?_)
      refine wp_of e187 c187_65 (rw_ldcS (pc' := 67) (k := 87) rfl rfl rfl rfl ?_)
      refine wp_of e187 c187_67 (rw_iload_n (pc' := 68) (z := z370) rfl rfl ?_)
      refine wp_of e187 c187_68 (rw_bipush (pc' := 70) (z := 23) rfl (by decide) ?_)
      refine wp_of e187 c187_70 (rw_iload_n (pc' := 71) (z := z370) rfl rfl ?_)
      refine wp_of e187 c187_71 (rw_bipush (pc' := 73) (z := 7) rfl (by decide) ?_)
      refine wp_of e187 c187_73 (rw_iadd (pc' := 74) rfl ?_)
      refine wp_of e187 c187_74 (xc_S (pc' := 77) (as := [vI 23, vI (z370 + 7)]) (st := [vI z370, .ref 87, .ref r0]) (lm_9_235) rfl rfl (Nat.le_of_ble_eq_true rfl) rfl (by decide) (u_191  hW ⟨by omega, by omega⟩ ⟨by omega, by omega⟩) (fun R376 T377 H378 p379 => ?_))
      obtain ⟨e380, e382, z383, e381, b384, p385⟩ := p379
      subst e380
      subst e381
      subst e382
      show wp _ _ 187 77 [(3, vI z370), (1, vL (H r0 15)), (0, .ref r0)] [vI z383, vI z370, .ref 87, .ref r0] _ H _
      refine wp_of e187 c187_77 (xc_V (pc' := 80) (r := r0) (as := [.ref 87, vI z370, vI z383]) (st := []) (lm_9_216) rfl rfl (Nat.le_of_ble_eq_true rfl) hW g0 sh_42 (by decide) rfl (by decide) (u_182_o (fo := fo) (po := po) (kk := 655) hW g0 rfl ⟨by omega, by omega⟩ ⟨by omega, by omega⟩ qrb grb (by decide +kernel) a374) (fun R387 T388 H389 p390 => ?_))
      obtain ⟨e391, e393, z394, e392, b395, p396⟩ := p390
      subst e391
      subst e392
      subst e393
      obtain ⟨a397, a398⟩ := p396
      show wp _ _ 187 80 [(3, vI z370), (1, vL (H r0 15)), (0, .ref r0)] [vI z394] _ H _
      have u399 := RO_k a398
      refine wp_of e187 c187_80 (rw_istore (pc' := 82) (z := z394) (L' := [(4, vI z394), (3, vI z370), (1, vL (H r0 15)), (0, .ref r0)]) rfl rfl rfl ?_)
      refine wp_of e187 c187_82 (rw_aload_n (pc' := 83) (v := .ref r0) rfl rfl rfl ?_)
      refine wp_of e187 c187_83 (rw_ldcS (pc' := 85) (k := 88) rfl rfl rfl rfl ?_)
      refine wp_of e187 c187_85 (rw_iconst (pc' := 86) rfl ?_)
      refine wp_of e187 c187_86 (rw_bipush (pc' := 88) (z := 12) rfl (by decide) ?_)
      refine wp_of e187 c187_88 (xc_V (pc' := 91) (r := r0) (as := [.ref 88, vI 0, vI 12]) (st := []) (lm_9_216) rfl rfl (Nat.le_of_ble_eq_true rfl) hW g0 sh_42 (by decide) rfl (by decide) (u_182_o (fo := fo) (po := po) (kk := 409031) hW g0 rfl ⟨by omega, by omega⟩ ⟨by omega, by omega⟩ qrb grb (by decide +kernel) a398) (fun R400 T401 H402 p403 => ?_))
      obtain ⟨e404, e406, z407, e405, b408, p409⟩ := p403
      subst e404
      subst e405
      subst e406
      obtain ⟨a410, a411⟩ := p409
      show wp _ _ 187 91 [(4, vI z394), (3, vI z370), (1, vL (H r0 15)), (0, .ref r0)] [vI z407] _ H _
      have u412 := RO_k a411
      refine wp_of e187 c187_91 (rw_istore (pc' := 93) (z := z407) (L' := [(5, vI z407), (4, vI z394), (3, vI z370), (1, vL (H r0 15)), (0, .ref r0)]) rfl rfl rfl ?_)
      refine wp_of e187 c187_93 (rw_aload_n (pc' := 94) (v := .ref r0) rfl rfl rfl ?_)
      refine wp_of e187 c187_94 (rw_ldcS (pc' := 96) (k := 87) rfl rfl rfl rfl ?_)
      refine wp_of e187 c187_96 (rw_iload (pc' := 98) (z := z407) rfl rfl ?_)
      refine wp_of e187 c187_98 (rw_bipush (pc' := 100) (z := 12) rfl (by decide) ?_)
      refine wp_of e187 c187_100 (rw_iload (pc' := 102) (z := z407) rfl rfl ?_)
      refine wp_of e187 c187_102 (rw_iconst (pc' := 103) rfl ?_)
      refine wp_of e187 c187_103 (rw_iadd (pc' := 104) rfl ?_)
      refine wp_of e187 c187_104 (xc_S (pc' := 107) (as := [vI 12, vI (z407 + 4)]) (st := [vI z407, .ref 87, .ref r0]) (lm_9_235) rfl rfl (Nat.le_of_ble_eq_true rfl) rfl (by decide) (u_191  hW ⟨by omega, by omega⟩ ⟨by omega, by omega⟩) (fun R413 T414 H415 p416 => ?_))
      obtain ⟨e417, e419, z420, e418, b421, p422⟩ := p416
      subst e417
      subst e418
      subst e419
      show wp _ _ 187 107 [(5, vI z407), (4, vI z394), (3, vI z370), (1, vL (H r0 15)), (0, .ref r0)] [vI z420, vI z407, .ref 87, .ref r0] _ H _
      refine wp_of e187 c187_107 (xc_V (pc' := 110) (r := r0) (as := [.ref 87, vI z407, vI z420]) (st := []) (lm_9_216) rfl rfl (Nat.le_of_ble_eq_true rfl) hW g0 sh_42 (by decide) rfl (by decide) (u_182_o (fo := fo) (po := po) (kk := 655) hW g0 rfl ⟨by omega, by omega⟩ ⟨by omega, by omega⟩ qrb grb (by decide +kernel) a411) (fun R424 T425 H426 p427 => ?_))
      obtain ⟨e428, e430, z431, e429, b432, p433⟩ := p427
      subst e428
      subst e429
      subst e430
      obtain ⟨a434, a435⟩ := p433
      show wp _ _ 187 110 [(5, vI z407), (4, vI z394), (3, vI z370), (1, vL (H r0 15)), (0, .ref r0)] [vI z431] _ H _
      have u436 := RO_k a435
      refine wp_of e187 c187_110 (rw_istore (pc' := 112) (z := z431) (L' := [(6, vI z431), (5, vI z407), (4, vI z394), (3, vI z370), (1, vL (H r0 15)), (0, .ref r0)]) rfl rfl rfl ?_)
      refine wp_of e187 c187_112 (rw_aload_n (pc' := 113) (v := .ref r0) rfl rfl rfl ?_)
      refine wp_of e187 c187_113 (rw_ldcS (pc' := 115) (k := 83) rfl rfl rfl rfl ?_)
      refine wp_of e187 c187_115 (xc_V (pc' := 118) (r := r0) (as := [.ref 83]) (st := []) (lm_9_240) rfl rfl (Nat.le_of_ble_eq_true rfl) hW g0 sh_42 (by decide) rfl (by decide) (u_192_o (fo := fo) (po := po) (kk := 8423732) hW g0 rfl qrb grb (by decide +kernel) a435) (fun R437 T438 H439 p440 => ?_))
      obtain ⟨e441, e443, z444, e442, b445, p446⟩ := p440
      subst e441
      subst e442
      subst e443
      obtain ⟨a447, a448⟩ := p446
      show wp _ _ 187 118 [(6, vI z431), (5, vI z407), (4, vI z394), (3, vI z370), (1, vL (H r0 15)), (0, .ref r0)] [vI z444] _ H _
      have u449 := RO_k a448
      refine wp_of e187 c187_118 (rw_if_eq (p1 := 131) (p2 := 121) (by decide) rfl ⟨by omega, by omega⟩ (fun c450 => ?_) (fun c450 => ?_))
      · refine wp_of e187 c187_131 (rw_iconst (pc' := 132) rfl ?_)
        refine wp_of e187 c187_132 (rw_istore (pc' := 134) (z := -1) (L' := [(7, vI (-1)), (6, vI z431), (5, vI z407), (4, vI z394), (3, vI z370), (1, vL (H r0 15)), (0, .ref r0)]) rfl rfl rfl ?_)
        refine wp_of e187 c187_134 (rw_aload_n (pc' := 135) (v := .ref r0) rfl rfl rfl ?_)
        refine wp_of e187 c187_135 (rw_ldcS (pc' := 137) (k := 84) rfl rfl rfl rfl ?_)
        refine wp_of e187 c187_137 (xc_V (pc' := 140) (r := r0) (as := [.ref 84]) (st := []) (lm_9_240) rfl rfl (Nat.le_of_ble_eq_true rfl) hW g0 sh_42 (by decide) rfl (by decide) (u_192_o (fo := fo) (po := po) (kk := 14384) hW g0 rfl qrb grb (by decide +kernel) a448) (fun R451 T452 H453 p454 => ?_))
        obtain ⟨e455, e457, z458, e456, b459, p460⟩ := p454
        subst e455
        subst e456
        subst e457
        obtain ⟨a461, a462⟩ := p460
        show wp _ _ 187 140 [(7, vI (-1)), (6, vI z431), (5, vI z407), (4, vI z394), (3, vI z370), (1, vL (H r0 15)), (0, .ref r0)] [vI z458] _ H _
        have u463 := RO_k a462
        refine wp_of e187 c187_140 (rw_istore (pc' := 142) (z := z458) (L' := [(8, vI z458), (7, vI (-1)), (6, vI z431), (5, vI z407), (4, vI z394), (3, vI z370), (1, vL (H r0 15)), (0, .ref r0)]) rfl rfl rfl ?_)
        refine wp_of e187 c187_142 (rw_iload (pc' := 144) (z := z458) rfl rfl ?_)
        refine wp_of e187 c187_144 (rw_if_eq (p1 := 157) (p2 := 147) (by decide) rfl ⟨by omega, by omega⟩ (fun c464 => ?_) (fun c464 => ?_))
        · refine wp_of e187 c187_157 (rw_iconst (pc' := 158) rfl ?_)
          refine wp_of e187 c187_158 (rw_istore (pc' := 160) (z := 0) (L' := [(9, vI 0), (8, vI z458), (7, vI (-1)), (6, vI z431), (5, vI z407), (4, vI z394), (3, vI z370), (1, vL (H r0 15)), (0, .ref r0)]) rfl rfl rfl ?_)
          refine wp_of e187 c187_160 (rw_iload (pc' := 162) (z := z458) rfl rfl ?_)
          refine wp_of e187 c187_162 (rw_if_eq (p1 := 180) (p2 := 165) (by decide) rfl ⟨by omega, by omega⟩ (fun c465 => ?_) (fun c465 => ?_))
          · refine wp_of e187 c187_180 (rw_iconst (pc' := 181) rfl ?_)
            refine wp_of e187 c187_181 (rw_istore (pc' := 183) (z := 0) (L' := [(10, vI 0), (9, vI 0), (8, vI z458), (7, vI (-1)), (6, vI z431), (5, vI z407), (4, vI z394), (3, vI z370), (1, vL (H r0 15)), (0, .ref r0)]) rfl rfl rfl ?_)
            refine wp_of e187 c187_183 (rw_aload_n (pc' := 184) (v := .ref r0) rfl rfl rfl ?_)
            refine wp_of e187 c187_184 (rw_ldcS (pc' := 186) (k := 85) rfl rfl rfl rfl ?_)
            refine wp_of e187 c187_186 (xc_V (pc' := 189) (r := r0) (as := [.ref 85]) (st := []) (lm_9_240) rfl rfl (Nat.le_of_ble_eq_true rfl) hW g0 sh_42 (by decide) rfl (by decide) (u_192_o (fo := fo) (po := po) (kk := 56377) hW g0 rfl qrb grb (by decide +kernel) a462) (fun R466 T467 H468 p469 => ?_))
            obtain ⟨e470, e472, z473, e471, b474, p475⟩ := p469
            subst e470
            subst e471
            subst e472
            obtain ⟨a476, a477⟩ := p475
            show wp _ _ 187 189 [(10, vI 0), (9, vI 0), (8, vI z458), (7, vI (-1)), (6, vI z431), (5, vI z407), (4, vI z394), (3, vI z370), (1, vL (H r0 15)), (0, .ref r0)] [vI z473] _ H _
            have u478 := RO_k a477
            refine wp_of e187 c187_189 (rw_istore (pc' := 191) (z := z473) (L' := [(11, vI z473), (10, vI 0), (9, vI 0), (8, vI z458), (7, vI (-1)), (6, vI z431), (5, vI z407), (4, vI z394), (3, vI z370), (1, vL (H r0 15)), (0, .ref r0)]) rfl rfl rfl ?_)
            refine wp_of e187 c187_191 (rw_aload_n (pc' := 192) (v := .ref r0) rfl rfl rfl ?_)
            refine wp_of e187 c187_192 (xg_I (pc' := 195) lf_9_75 hW g0 sh_42 (by decide) (by decide) ty_42_9 rfl rfl (fun b479 b480 => ?_))
            refine wp_of e187 c187_195 (rw_iconst (pc' := 196) rfl ?_)
            refine wp_of e187 c187_196 (rw_icmp_ne (p1 := 200) (p2 := 199) (by decide) rfl ⟨by omega, by omega⟩ ⟨by omega, by omega⟩ (fun c481 => ?_) (fun c481 => ?_))
            · exfalso
              omega
            · exact wp_return e187 c187_199 rfl ⟨rfl, rfl, rfl, (a477)⟩
          · exfalso
            omega
        · exfalso
          omega
      · exfalso
        omega
    · refine wp_of e187 c187_40 (rw_aload_n (pc' := 41) (v := .ref r0) rfl rfl rfl ?_)
      refine wp_of e187 c187_41 (rw_iconst (pc' := 42) rfl ?_)
      refine wp_of e187 c187_42 (xc_V (pc' := 45) (r := r0) (as := [vI 3]) (st := []) (lm_9_121) rfl rfl (Nat.le_of_ble_eq_true rfl) hW g0 sh_42 (by decide) rfl (by decide) (u_181_o (fo := fo) (po := po) hW g0 ⟨by omega, by omega⟩ p334) (fun R482 T483 H484 p485 => ?_))
      obtain ⟨e486, e488, e487, p489⟩ := p485
      subst e486
      subst e487
      subst e488
      show wp _ _ 187 45 [(0, .ref r0)] [] _ H _
      have u491 := RO_k p489
      refine wp_of e187 c187_45 (rw_aload_n (pc' := 46) (v := .ref r0) rfl rfl rfl ?_)
      refine wp_of e187 c187_46 (xg_L (pc' := 49) lf_9_94 hW g0 sh_42 (by decide) (by decide) ty_42_15 rfl rfl (fun b492 b493 => ?_))
      refine wp_of e187 c187_49 (rw_lstore_n (pc' := 50) (z := H r0 15) (L' := [(1, vL (H r0 15)), (0, .ref r0)]) rfl rfl rfl ?_)
      refine wp_of e187 c187_50 (rw_aload_n (pc' := 51) (v := .ref r0) rfl rfl rfl ?_)
      refine wp_of e187 c187_51 (xc_V (pc' := 54) (r := r0) (as := []) (st := []) (lm_9_118) rfl rfl (Nat.le_of_ble_eq_true rfl) hW g0 sh_42 (by decide) rfl (by decide) (u_172_o (fo := fo) (po := po) hW g0 p489) (fun R494 T495 H496 p497 => ?_))
      obtain ⟨e498, e500, e499, p501⟩ := p497
      subst e498
      subst e499
      subst e500
      show wp _ _ 187 54 [(1, vL (H r0 15)), (0, .ref r0)] [] _ H _
      have u503 := RO_k p501
      refine wp_of e187 c187_54 (rw_aload_n (pc' := 55) (v := .ref r0) rfl rfl rfl ?_)
      refine wp_of e187 c187_55 (rw_ldcS (pc' := 57) (k := 86) rfl rfl rfl rfl ?_)
      refine wp_of e187 c187_57 (rw_iconst (pc' := 58) rfl ?_)
      refine wp_of e187 c187_58 (rw_bipush (pc' := 60) (z := 23) rfl (by decide) ?_)
      refine wp_of e187 c187_60 (xc_V (pc' := 63) (r := r0) (as := [.ref 86, vI 0, vI 23]) (st := []) (lm_9_216) rfl rfl (Nat.le_of_ble_eq_true rfl) hW g0 sh_42 (by decide) rfl (by decide) (u_182_o (fo := fo) (po := po) (kk := 2212) hW g0 rfl ⟨by omega, by omega⟩ ⟨by omega, by omega⟩ qrb grb (by decide +kernel) p501) (fun R504 T505 H506 p507 => ?_))
      obtain ⟨e508, e510, z511, e509, b512, p513⟩ := p507
      subst e508
      subst e509
      subst e510
      obtain ⟨a514, a515⟩ := p513
      show wp _ _ 187 63 [(1, vL (H r0 15)), (0, .ref r0)] [vI z511] _ H _
      have u516 := RO_k a515
      refine wp_of e187 c187_63 (rw_istore_n (pc' := 64) (z := z511) (L' := [(3, vI z511), (1, vL (H r0 15)), (0, .ref r0)]) rfl rfl rfl ?_)
      refine wp_of e187 c187_64 (rw_aload_n (pc' := 65) (v := .ref r0) rfl rfl rfl ?_)
      refine wp_of e187 c187_65 (rw_ldcS (pc' := 67) (k := 87) rfl rfl rfl rfl ?_)
      refine wp_of e187 c187_67 (rw_iload_n (pc' := 68) (z := z511) rfl rfl ?_)
      refine wp_of e187 c187_68 (rw_bipush (pc' := 70) (z := 23) rfl (by decide) ?_)
      refine wp_of e187 c187_70 (rw_iload_n (pc' := 71) (z := z511) rfl rfl ?_)
      refine wp_of e187 c187_71 (rw_bipush (pc' := 73) (z := 7) rfl (by decide) ?_)
      refine wp_of e187 c187_73 (rw_iadd (pc' := 74) rfl ?_)
      refine wp_of e187 c187_74 (xc_S (pc' := 77) (as := [vI 23, vI (z511 + 7)]) (st := [vI z511, .ref 87, .ref r0]) (lm_9_235) rfl rfl (Nat.le_of_ble_eq_true rfl) rfl (by decide) (u_191  hW ⟨by omega, by omega⟩ ⟨by omega, by omega⟩) (fun R517 T518 H519 p520 => ?_))
      obtain ⟨e521, e523, z524, e522, b525, p526⟩ := p520
      subst e521
      subst e522
      subst e523
      show wp _ _ 187 77 [(3, vI z511), (1, vL (H r0 15)), (0, .ref r0)] [vI z524, vI z511, .ref 87, .ref r0] _ H _
      refine wp_of e187 c187_77 (xc_V (pc' := 80) (r := r0) (as := [.ref 87, vI z511, vI z524]) (st := []) (lm_9_216) rfl rfl (Nat.le_of_ble_eq_true rfl) hW g0 sh_42 (by decide) rfl (by decide) (u_182_o (fo := fo) (po := po) (kk := 655) hW g0 rfl ⟨by omega, by omega⟩ ⟨by omega, by omega⟩ qrb grb (by decide +kernel) a515) (fun R528 T529 H530 p531 => ?_))
      obtain ⟨e532, e534, z535, e533, b536, p537⟩ := p531
      subst e532
      subst e533
      subst e534
      obtain ⟨a538, a539⟩ := p537
      show wp _ _ 187 80 [(3, vI z511), (1, vL (H r0 15)), (0, .ref r0)] [vI z535] _ H _
      have u540 := RO_k a539
      refine wp_of e187 c187_80 (rw_istore (pc' := 82) (z := z535) (L' := [(4, vI z535), (3, vI z511), (1, vL (H r0 15)), (0, .ref r0)]) rfl rfl rfl ?_)
      refine wp_of e187 c187_82 (rw_aload_n (pc' := 83) (v := .ref r0) rfl rfl rfl ?_)
      refine wp_of e187 c187_83 (rw_ldcS (pc' := 85) (k := 88) rfl rfl rfl rfl ?_)
      refine wp_of e187 c187_85 (rw_iconst (pc' := 86) rfl ?_)
      refine wp_of e187 c187_86 (rw_bipush (pc' := 88) (z := 12) rfl (by decide) ?_)
      refine wp_of e187 c187_88 (xc_V (pc' := 91) (r := r0) (as := [.ref 88, vI 0, vI 12]) (st := []) (lm_9_216) rfl rfl (Nat.le_of_ble_eq_true rfl) hW g0 sh_42 (by decide) rfl (by decide) (u_182_o (fo := fo) (po := po) (kk := 409031) hW g0 rfl ⟨by omega, by omega⟩ ⟨by omega, by omega⟩ qrb grb (by decide +kernel) a539) (fun R541 T542 H543 p544 => ?_))
      obtain ⟨e545, e547, z548, e546, b549, p550⟩ := p544
      subst e545
      subst e546
      subst e547
      obtain ⟨a551, a552⟩ := p550
      show wp _ _ 187 91 [(4, vI z535), (3, vI z511), (1, vL (H r0 15)), (0, .ref r0)] [vI z548] _ H _
      have u553 := RO_k a552
      refine wp_of e187 c187_91 (rw_istore (pc' := 93) (z := z548) (L' := [(5, vI z548), (4, vI z535), (3, vI z511), (1, vL (H r0 15)), (0, .ref r0)]) rfl rfl rfl ?_)
      refine wp_of e187 c187_93 (rw_aload_n (pc' := 94) (v := .ref r0) rfl rfl rfl ?_)
      refine wp_of e187 c187_94 (rw_ldcS (pc' := 96) (k := 87) rfl rfl rfl rfl ?_)
      refine wp_of e187 c187_96 (rw_iload (pc' := 98) (z := z548) rfl rfl ?_)
      refine wp_of e187 c187_98 (rw_bipush (pc' := 100) (z := 12) rfl (by decide) ?_)
      refine wp_of e187 c187_100 (rw_iload (pc' := 102) (z := z548) rfl rfl ?_)
      refine wp_of e187 c187_102 (rw_iconst (pc' := 103) rfl ?_)
      refine wp_of e187 c187_103 (rw_iadd (pc' := 104) rfl ?_)
      refine wp_of e187 c187_104 (xc_S (pc' := 107) (as := [vI 12, vI (z548 + 4)]) (st := [vI z548, .ref 87, .ref r0]) (lm_9_235) rfl rfl (Nat.le_of_ble_eq_true rfl) rfl (by decide) (u_191  hW ⟨by omega, by omega⟩ ⟨by omega, by omega⟩) (fun R554 T555 H556 p557 => ?_))
      obtain ⟨e558, e560, z561, e559, b562, p563⟩ := p557
      subst e558
      subst e559
      subst e560
      show wp _ _ 187 107 [(5, vI z548), (4, vI z535), (3, vI z511), (1, vL (H r0 15)), (0, .ref r0)] [vI z561, vI z548, .ref 87, .ref r0] _ H _
      refine wp_of e187 c187_107 (xc_V (pc' := 110) (r := r0) (as := [.ref 87, vI z548, vI z561]) (st := []) (lm_9_216) rfl rfl (Nat.le_of_ble_eq_true rfl) hW g0 sh_42 (by decide) rfl (by decide) (u_182_o (fo := fo) (po := po) (kk := 655) hW g0 rfl ⟨by omega, by omega⟩ ⟨by omega, by omega⟩ qrb grb (by decide +kernel) a552) (fun R565 T566 H567 p568 => ?_))
      obtain ⟨e569, e571, z572, e570, b573, p574⟩ := p568
      subst e569
      subst e570
      subst e571
      obtain ⟨a575, a576⟩ := p574
      show wp _ _ 187 110 [(5, vI z548), (4, vI z535), (3, vI z511), (1, vL (H r0 15)), (0, .ref r0)] [vI z572] _ H _
      have u577 := RO_k a576
      refine wp_of e187 c187_110 (rw_istore (pc' := 112) (z := z572) (L' := [(6, vI z572), (5, vI z548), (4, vI z535), (3, vI z511), (1, vL (H r0 15)), (0, .ref r0)]) rfl rfl rfl ?_)
      refine wp_of e187 c187_112 (rw_aload_n (pc' := 113) (v := .ref r0) rfl rfl rfl ?_)
      refine wp_of e187 c187_113 (rw_ldcS (pc' := 115) (k := 83) rfl rfl rfl rfl ?_)
      refine wp_of e187 c187_115 (xc_V (pc' := 118) (r := r0) (as := [.ref 83]) (st := []) (lm_9_240) rfl rfl (Nat.le_of_ble_eq_true rfl) hW g0 sh_42 (by decide) rfl (by decide) (u_192_o (fo := fo) (po := po) (kk := 8423732) hW g0 rfl qrb grb (by decide +kernel) a576) (fun R578 T579 H580 p581 => ?_))
      obtain ⟨e582, e584, z585, e583, b586, p587⟩ := p581
      subst e582
      subst e583
      subst e584
      obtain ⟨a588, a589⟩ := p587
      show wp _ _ 187 118 [(6, vI z572), (5, vI z548), (4, vI z535), (3, vI z511), (1, vL (H r0 15)), (0, .ref r0)] [vI z585] _ H _
      have u590 := RO_k a589
      refine wp_of e187 c187_118 (rw_if_eq (p1 := 131) (p2 := 121) (by decide) rfl ⟨by omega, by omega⟩ (fun c591 => ?_) (fun c591 => ?_))
      · refine wp_of e187 c187_131 (rw_iconst (pc' := 132) rfl ?_)
        refine wp_of e187 c187_132 (rw_istore (pc' := 134) (z := -1) (L' := [(7, vI (-1)), (6, vI z572), (5, vI z548), (4, vI z535), (3, vI z511), (1, vL (H r0 15)), (0, .ref r0)]) rfl rfl rfl ?_)
        refine wp_of e187 c187_134 (rw_aload_n (pc' := 135) (v := .ref r0) rfl rfl rfl ?_)
        refine wp_of e187 c187_135 (rw_ldcS (pc' := 137) (k := 84) rfl rfl rfl rfl ?_)
        refine wp_of e187 c187_137 (xc_V (pc' := 140) (r := r0) (as := [.ref 84]) (st := []) (lm_9_240) rfl rfl (Nat.le_of_ble_eq_true rfl) hW g0 sh_42 (by decide) rfl (by decide) (u_192_o (fo := fo) (po := po) (kk := 14384) hW g0 rfl qrb grb (by decide +kernel) a589) (fun R592 T593 H594 p595 => ?_))
        obtain ⟨e596, e598, z599, e597, b600, p601⟩ := p595
        subst e596
        subst e597
        subst e598
        obtain ⟨a602, a603⟩ := p601
        show wp _ _ 187 140 [(7, vI (-1)), (6, vI z572), (5, vI z548), (4, vI z535), (3, vI z511), (1, vL (H r0 15)), (0, .ref r0)] [vI z599] _ H _
        have u604 := RO_k a603
        refine wp_of e187 c187_140 (rw_istore (pc' := 142) (z := z599) (L' := [(8, vI z599), (7, vI (-1)), (6, vI z572), (5, vI z548), (4, vI z535), (3, vI z511), (1, vL (H r0 15)), (0, .ref r0)]) rfl rfl rfl ?_)
        refine wp_of e187 c187_142 (rw_iload (pc' := 144) (z := z599) rfl rfl ?_)
        refine wp_of e187 c187_144 (rw_if_eq (p1 := 157) (p2 := 147) (by decide) rfl ⟨by omega, by omega⟩ (fun c605 => ?_) (fun c605 => ?_))
        · refine wp_of e187 c187_157 (rw_iconst (pc' := 158) rfl ?_)
          refine wp_of e187 c187_158 (rw_istore (pc' := 160) (z := 0) (L' := [(9, vI 0), (8, vI z599), (7, vI (-1)), (6, vI z572), (5, vI z548), (4, vI z535), (3, vI z511), (1, vL (H r0 15)), (0, .ref r0)]) rfl rfl rfl ?_)
          refine wp_of e187 c187_160 (rw_iload (pc' := 162) (z := z599) rfl rfl ?_)
          refine wp_of e187 c187_162 (rw_if_eq (p1 := 180) (p2 := 165) (by decide) rfl ⟨by omega, by omega⟩ (fun c606 => ?_) (fun c606 => ?_))
          · refine wp_of e187 c187_180 (rw_iconst (pc' := 181) rfl ?_)
            refine wp_of e187 c187_181 (rw_istore (pc' := 183) (z := 0) (L' := [(10, vI 0), (9, vI 0), (8, vI z599), (7, vI (-1)), (6, vI z572), (5, vI z548), (4, vI z535), (3, vI z511), (1, vL (H r0 15)), (0, .ref r0)]) rfl rfl rfl ?_)
            refine wp_of e187 c187_183 (rw_aload_n (pc' := 184) (v := .ref r0) rfl rfl rfl ?_)
            refine wp_of e187 c187_184 (rw_ldcS (pc' := 186) (k := 85) rfl rfl rfl rfl ?_)
            refine wp_of e187 c187_186 (xc_V (pc' := 189) (r := r0) (as := [.ref 85]) (st := []) (lm_9_240) rfl rfl (Nat.le_of_ble_eq_true rfl) hW g0 sh_42 (by decide) rfl (by decide) (u_192_o (fo := fo) (po := po) (kk := 56377) hW g0 rfl qrb grb (by decide +kernel) a603) (fun R607 T608 H609 p610 => ?_))
            obtain ⟨e611, e613, z614, e612, b615, p616⟩ := p610
            subst e611
            subst e612
            subst e613
            obtain ⟨a617, a618⟩ := p616
            show wp _ _ 187 189 [(10, vI 0), (9, vI 0), (8, vI z599), (7, vI (-1)), (6, vI z572), (5, vI z548), (4, vI z535), (3, vI z511), (1, vL (H r0 15)), (0, .ref r0)] [vI z614] _ H _
            have u619 := RO_k a618
            refine wp_of e187 c187_189 (rw_istore (pc' := 191) (z := z614) (L' := [(11, vI z614), (10, vI 0), (9, vI 0), (8, vI z599), (7, vI (-1)), (6, vI z572), (5, vI z548), (4, vI z535), (3, vI z511), (1, vL (H r0 15)), (0, .ref r0)]) rfl rfl rfl ?_)
            refine wp_of e187 c187_191 (rw_aload_n (pc' := 192) (v := .ref r0) rfl rfl rfl ?_)
            refine wp_of e187 c187_192 (xg_I (pc' := 195) lf_9_75 hW g0 sh_42 (by decide) (by decide) ty_42_9 rfl rfl (fun b620 b621 => ?_))
            refine wp_of e187 c187_195 (rw_iconst (pc' := 196) rfl ?_)
            refine wp_of e187 c187_196 (rw_icmp_ne (p1 := 200) (p2 := 199) (by decide) rfl ⟨by omega, by omega⟩ ⟨by omega, by omega⟩ (fun c622 => ?_) (fun c622 => ?_))
            · exfalso
              omega
            · exact wp_return e187 c187_199 rfl ⟨rfl, rfl, rfl, (a618)⟩
          · exfalso
            omega
        · exfalso
          omega
      · exfalso
        omega
/-! StrikeAwakeModel.readLine()V k -/
abbrev uq_177_k (r0 : Nat) (rp : Nat) (rb : Nat) (B : Nat → Int) (n : Int) (q : Int) (d : xD) (T : wq_T) (H : wq_H) : Option Value → wq_T → wq_H → Prop := fun r T' H' => T = T' ∧ WT T H' ∧ wfr [(54, 0), (54, 1), (54, 2), (54, 3), (54, 4), (54, 5), (54, 6), (54, 7), (54, 8), (42, 8), (42, 9), (42, 10), (42, 11), (42, 12), (42, 13), (42, 14), (42, 15), (42, 16), (42, 17), (42, 18), (64, 999), (65, 999), (56, 999), (57, 999), (66, 999), (60, 999), (63, 999), (58, 999), (59, 999), (55, 999), (61, 999), (62, 999), (72, 999), (71, 999), (67, 999), (68, 999), (69, 999)] T H H' ∧ none = r ∧ ((((xline B n q d).1 = 0) ∧ (q ≤ (xline B n q d).2.2) ∧ (∀ a, a ≠ rp → T.2.2.2 a = some 54 → H' a 3 = H a 3) ∧ RC T H' r0 B n (xline B n q d).2.2 ∧ DM T H' rp r0 (xdline B n q d)) ∨ (((xline B n q d).1 ≠ 0) ∧ (∀ a, a ≠ rp → T.2.2.2 a = some 54 → H' a 3 = H a 3) ∧ RO T H' r0 ((xline B n q d).1) ((xline B n q d).2.1)))
set_option maxHeartbeats 4000000 in
theorem u_177_k {kt : Nat → Option mc_E} {T : wq_T} {H : wq_H} {r0 : Nat} {rp : Nat} {rb : Nat} {B : Nat → Int} {n : Int} {q : Int} {d : xD} (hW : WT T H) (g0 : T.2.2.2 r0 = some 42) (qrp : H r0 4 = (rp : Int)) (grp : T.2.2.2 rp = some 54) (qrb : H r0 5 = (rb : Int)) (grb : T.2.2.2 rb = some 43) (hRC_r0 : RC T H r0 B n q) (hDM_rp : DM T H rp r0 d) : wpc kt 8 177 [.ref r0] T H (uq_177_k r0 rp rb B n q d T H) := by
  refine wp_enter e177 (Nat.le_of_ble_eq_true rfl) rfl ?_
  have f0 : wfr [(54, 0), (54, 1), (54, 2), (54, 3), (54, 4), (54, 5), (54, 6), (54, 7), (54, 8), (42, 8), (42, 9), (42, 10), (42, 11), (42, 12), (42, 13), (42, 14), (42, 15), (42, 16), (42, 17), (42, 18), (64, 999), (65, 999), (56, 999), (57, 999), (66, 999), (60, 999), (63, 999), (58, 999), (59, 999), (55, 999), (61, 999), (62, 999), (72, 999), (71, 999), (67, 999), (68, 999), (69, 999)] T H H := wfr.rf
  show wp _ _ 177 0 [(0, .ref r0)] [] _ H _
  have u293 := RC_k hRC_r0
  have u294 := DM_k hDM_rp
  have _r := @xre_r B n q
  refine wp_of e177 c177_0 (rw_aload_n (pc' := 1) (v := .ref r0) rfl rfl rfl ?_)
  refine wp_of e177 c177_1 (rw_ldcS (pc' := 3) (k := 72) rfl rfl rfl rfl ?_)
  refine wp_of e177 c177_3 (xc_V (pc' := 6) (r := r0) (as := [.ref 72]) (st := []) (lm_9_114) rfl rfl (Nat.le_of_ble_eq_true rfl) hW g0 sh_42 (by decide) rfl (by decide) (u_178_k (B := B) (n := n) (q := q) (kk := 12343) hW g0 rfl (by decide +kernel) hRC_r0) (fun R295 T296 H297 p298 => ?_))
  obtain ⟨e299, e301, z302, e300, b303, p304⟩ := p298
  subst e299
  subst e300
  subst e301
  rcases p304 with ⟨a305, a306, a307⟩ | ⟨a308, a309⟩
  · show wp _ _ 177 6 [(0, .ref r0)] [vI z302] _ H _
    have y310 := xre_y (B := B) (n := n) (q := q) 0 12343 rfl (by decide) (by omega)
    refine wp_of e177 c177_6 (rw_if_eq (p1 := 16) (p2 := 9) (by decide) rfl ⟨by omega, by omega⟩ (fun c311 => ?_) (fun c311 => ?_))
    · exfalso
      omega
    · refine wp_of e177 c177_9 (rw_aload_n (pc' := 10) (v := .ref r0) rfl rfl rfl ?_)
      refine wp_of e177 c177_10 (xc_V (pc' := 13) (r := r0) (as := []) (st := []) (lm_9_191) rfl rfl (Nat.le_of_ble_eq_true rfl) hW g0 sh_42 (by decide) rfl (by decide) (u_180_k (B := B) (n := n) (q := q) (d := d) hW g0 qrp grp qrb grb (by omega) hRC_r0 hDM_rp) (fun R312 T313 H314 p315 => ?_))
      obtain ⟨e316, w318, f319, e317, p320⟩ := p315
      subst e316
      subst e317
      rcases p320 with ⟨a321, a322, a323, a324, a325⟩ | ⟨a326, a327⟩
      · have f328 := f0.tr f319 rfl
        show wp _ _ 177 13 [(0, .ref r0)] [] _ H314 _
        have u329 := RC_k a324
        have u330 := DM_k a325
        refine wp_of e177 c177_13 (rw_goto (p1 := 133) (by decide) ?_)
        have o331 : (xline B n q d) = ((xl0 B n q d).1, (xl0 B n q d).2.1, (xl0 B n q d).2.2) := by
          unfold xline
          repeat first | rw [xs_0 (by omega)] | rw [xs_1 (by omega)] | rw [if_pos (by omega)] | rw [if_neg (by omega)]
          first | done | rfl | assumption | (exfalso; omega) | (refine Prod.ext ?_ (Prod.ext ?_ ?_) <;> (try dsimp only) <;> omega)
        have o331a : ((xline B n q d)).1 = (xl0 B n q d).1 := by rw [o331]
        have o331b : ((xline B n q d)).2.1 = (xl0 B n q d).2.1 := by rw [o331]
        have o331c : ((xline B n q d)).2.2 = (xl0 B n q d).2.2 := by rw [o331]
        have o332 : xdline B n q d = ((xdlaw B n (xN B n q) d)) := by
          unfold xdline
          repeat first | rw [xs_0 (by omega)] | rw [xs_1 (by omega)] | rw [if_pos (by omega)] | rw [if_neg (by omega)]
          first | done | rfl
        exact wp_return e177 c177_133 rfl ⟨rfl, w318, f328, rfl, (Or.inl ⟨by omega, by omega, (fun a ha ga => (f319 a 3 _ ga rfl)), by rw [show (xline B n q d).2.2 = ((xN B n (xN B n (xN B n (xN B n (xN B n (xN B n (xN B n q)))))))) by omega]; exact a324, by rw [o332]; exact a325⟩)⟩
      · have f333 := f0.tr f319 rfl
        show wp _ _ 177 13 [(0, .ref r0)] [] _ H314 _
        have u334 := RO_k a327
        refine wp_of e177 c177_13 (rw_goto (p1 := 133) (by decide) ?_)
        have o335 : (xline B n q d) = ((xl0 B n q d).1, (xl0 B n q d).2.1, (xl0 B n q d).2.2) := by
          unfold xline
          repeat first | rw [xs_0 (by omega)] | rw [xs_1 (by omega)] | rw [if_pos (by omega)] | rw [if_neg (by omega)]
          first | done | rfl | assumption | (exfalso; omega) | (refine Prod.ext ?_ (Prod.ext ?_ ?_) <;> (try dsimp only) <;> omega)
        have o335a : ((xline B n q d)).1 = (xl0 B n q d).1 := by rw [o335]
        have o335b : ((xline B n q d)).2.1 = (xl0 B n q d).2.1 := by rw [o335]
        have o335c : ((xline B n q d)).2.2 = (xl0 B n q d).2.2 := by rw [o335]
        exact wp_return e177 c177_133 rfl ⟨rfl, w318, f333, rfl, (Or.inr ⟨by omega, (fun a ha ga => (f319 a 3 _ ga rfl)), RO_eq a327 (by omega) (by omega)⟩)⟩
  · show wp _ _ 177 6 [(0, .ref r0)] [vI z302] _ H _
    have y336 := xre_n (B := B) (n := n) (q := q) 0 12343 rfl (by decide) (by omega)
    refine wp_of e177 c177_6 (rw_if_eq (p1 := 16) (p2 := 9) (by decide) rfl ⟨by omega, by omega⟩ (fun c337 => ?_) (fun c337 => ?_))
    · refine wp_of e177 c177_16 (rw_aload_n (pc' := 17) (v := .ref r0) rfl rfl rfl ?_)
      refine wp_of e177 c177_17 (rw_ldcS (pc' := 19) (k := 76) rfl rfl rfl rfl ?_)
      refine wp_of e177 c177_19 (xc_V (pc' := 22) (r := r0) (as := [.ref 76]) (st := []) (lm_9_114) rfl rfl (Nat.le_of_ble_eq_true rfl) hW g0 sh_42 (by decide) rfl (by decide) (u_178_k (B := B) (n := n) (q := q) (kk := 542723566) hW g0 rfl (by decide +kernel) hRC_r0) (fun R338 T339 H340 p341 => ?_))
      obtain ⟨e342, e344, z345, e343, b346, p347⟩ := p341
      subst e342
      subst e343
      subst e344
      rcases p347 with ⟨a348, a349, a350⟩ | ⟨a351, a352⟩
      · show wp _ _ 177 22 [(0, .ref r0)] [vI z345] _ H _
        have y353 := xre_y (B := B) (n := n) (q := q) 1 542723566 rfl (by decide) (by omega)
        refine wp_of e177 c177_22 (rw_if_eq (p1 := 32) (p2 := 25) (by decide) rfl ⟨by omega, by omega⟩ (fun c354 => ?_) (fun c354 => ?_))
        · exfalso
          omega
        · refine wp_of e177 c177_25 (rw_aload_n (pc' := 26) (v := .ref r0) rfl rfl rfl ?_)
          refine wp_of e177 c177_26 (xc_V (pc' := 29) (r := r0) (as := []) (st := []) (lm_9_194) rfl rfl (Nat.le_of_ble_eq_true rfl) hW g0 sh_42 (by decide) rfl (by decide) (u_187_k (B := B) (n := n) (q := q) (d := d) hW g0 qrp grp qrb grb (by omega) hRC_r0 hDM_rp) (fun R355 T356 H357 p358 => ?_))
          obtain ⟨e359, w361, f362, e360, p363⟩ := p358
          subst e359
          subst e360
          rcases p363 with ⟨a364, a365, a366, a367, a368⟩ | ⟨a369, a370, a371⟩
          · have f372 := f0.tr f362 rfl
            show wp _ _ 177 29 [(0, .ref r0)] [] _ H357 _
            have u373 := RC_k a367
            have u374 := DM_k a368
            refine wp_of e177 c177_29 (rw_goto (p1 := 133) (by decide) ?_)
            have o375 : (xline B n q d) = ((xl1 B n q d).1, (xl1 B n q d).2.1, (xl1 B n q d).2.2) := by
              unfold xline
              repeat first | rw [xs_0 (by omega)] | rw [xs_1 (by omega)] | rw [if_pos (by omega)] | rw [if_neg (by omega)]
              first | done | rfl | assumption | (exfalso; omega) | (refine Prod.ext ?_ (Prod.ext ?_ ?_) <;> (try dsimp only) <;> omega)
            have o375a : ((xline B n q d)).1 = (xl1 B n q d).1 := by rw [o375]
            have o375b : ((xline B n q d)).2.1 = (xl1 B n q d).2.1 := by rw [o375]
            have o375c : ((xline B n q d)).2.2 = (xl1 B n q d).2.2 := by rw [o375]
            have o376 : xdline B n q d = (xdper B n (xN B n q) d) := by
              unfold xdline
              repeat first | rw [xs_0 (by omega)] | rw [xs_1 (by omega)] | rw [if_pos (by omega)] | rw [if_neg (by omega)]
              first | done | rfl
            exact wp_return e177 c177_133 rfl ⟨rfl, w361, f372, rfl, (Or.inl ⟨by omega, by omega, (fun a ha ga => (a366 a ha ga)), by rw [show (xline B n q d).2.2 = ((xl1 B n q d).2.2) by omega]; exact a367, by rw [o376]; exact a368⟩)⟩
          · have f377 := f0.tr f362 rfl
            show wp _ _ 177 29 [(0, .ref r0)] [] _ H357 _
            have u378 := RO_k a371
            refine wp_of e177 c177_29 (rw_goto (p1 := 133) (by decide) ?_)
            have o379 : (xline B n q d) = ((xl1 B n q d).1, (xl1 B n q d).2.1, (xl1 B n q d).2.2) := by
              unfold xline
              repeat first | rw [xs_0 (by omega)] | rw [xs_1 (by omega)] | rw [if_pos (by omega)] | rw [if_neg (by omega)]
              first | done | rfl | assumption | (exfalso; omega) | (refine Prod.ext ?_ (Prod.ext ?_ ?_) <;> (try dsimp only) <;> omega)
            have o379a : ((xline B n q d)).1 = (xl1 B n q d).1 := by rw [o379]
            have o379b : ((xline B n q d)).2.1 = (xl1 B n q d).2.1 := by rw [o379]
            have o379c : ((xline B n q d)).2.2 = (xl1 B n q d).2.2 := by rw [o379]
            exact wp_return e177 c177_133 rfl ⟨rfl, w361, f377, rfl, (Or.inr ⟨by omega, (fun a ha ga => (a370 a ha ga)), RO_eq a371 (by omega) (by omega)⟩)⟩
      · show wp _ _ 177 22 [(0, .ref r0)] [vI z345] _ H _
        have y380 := xre_n (B := B) (n := n) (q := q) 1 542723566 rfl (by decide) (by omega)
        refine wp_of e177 c177_22 (rw_if_eq (p1 := 32) (p2 := 25) (by decide) rfl ⟨by omega, by omega⟩ (fun c381 => ?_) (fun c381 => ?_))
        · refine wp_of e177 c177_32 (rw_aload_n (pc' := 33) (v := .ref r0) rfl rfl rfl ?_)
          refine wp_of e177 c177_33 (rw_ldcS (pc' := 35) (k := 77) rfl rfl rfl rfl ?_)
          refine wp_of e177 c177_35 (xc_V (pc' := 38) (r := r0) (as := [.ref 77]) (st := []) (lm_9_114) rfl rfl (Nat.le_of_ble_eq_true rfl) hW g0 sh_42 (by decide) rfl (by decide) (u_178_k (B := B) (n := n) (q := q) (kk := 643584494) hW g0 rfl (by decide +kernel) hRC_r0) (fun R382 T383 H384 p385 => ?_))
          obtain ⟨e386, e388, z389, e387, b390, p391⟩ := p385
          subst e386
          subst e387
          subst e388
          rcases p391 with ⟨a392, a393, a394⟩ | ⟨a395, a396⟩
          · show wp _ _ 177 38 [(0, .ref r0)] [vI z389] _ H _
            have y397 := xre_y (B := B) (n := n) (q := q) 2 643584494 rfl (by decide) (by omega)
            refine wp_of e177 c177_38 (rw_if_eq (p1 := 48) (p2 := 41) (by decide) rfl ⟨by omega, by omega⟩ (fun c398 => ?_) (fun c398 => ?_))
            · exfalso
              omega
            · refine wp_of e177 c177_41 (rw_aload_n (pc' := 42) (v := .ref r0) rfl rfl rfl ?_)
              refine wp_of e177 c177_42 (xc_V (pc' := 45) (r := r0) (as := []) (st := []) (lm_9_197) rfl rfl (Nat.le_of_ble_eq_true rfl) hW g0 sh_42 (by decide) rfl (by decide) (u_193_k (B := B) (n := n) (q := q) (d := d) hW g0 qrp grp qrb grb (by omega) hRC_r0 hDM_rp) (fun R399 T400 H401 p402 => ?_))
              obtain ⟨e403, w405, f406, e404, p407⟩ := p402
              subst e403
              subst e404
              rcases p407 with ⟨a408, a409, a410, a411, a412⟩ | ⟨a413, a414⟩
              · have f415 := f0.tr f406 rfl
                show wp _ _ 177 45 [(0, .ref r0)] [] _ H401 _
                have u416 := RC_k a411
                have u417 := DM_k a412
                refine wp_of e177 c177_45 (rw_goto (p1 := 133) (by decide) ?_)
                have o418 : (xline B n q d) = ((xl2 B n q d).1, (xl2 B n q d).2.1, (xl2 B n q d).2.2) := by
                  unfold xline
                  repeat first | rw [xs_0 (by omega)] | rw [xs_1 (by omega)] | rw [if_pos (by omega)] | rw [if_neg (by omega)]
                  first | done | rfl | assumption | (exfalso; omega) | (refine Prod.ext ?_ (Prod.ext ?_ ?_) <;> (try dsimp only) <;> omega)
                have o418a : ((xline B n q d)).1 = (xl2 B n q d).1 := by rw [o418]
                have o418b : ((xline B n q d)).2.1 = (xl2 B n q d).2.1 := by rw [o418]
                have o418c : ((xline B n q d)).2.2 = (xl2 B n q d).2.2 := by rw [o418]
                have o419 : xdline B n q d = ((xdsex B n (xN B n q) d)) := by
                  unfold xdline
                  repeat first | rw [xs_0 (by omega)] | rw [xs_1 (by omega)] | rw [if_pos (by omega)] | rw [if_neg (by omega)]
                  first | done | rfl
                exact wp_return e177 c177_133 rfl ⟨rfl, w405, f415, rfl, (Or.inl ⟨by omega, by omega, (fun a ha ga => (f406 a 3 _ ga rfl)), by rw [show (xline B n q d).2.2 = ((xN B n (xN B n q))) by omega]; exact a411, by rw [o419]; exact a412⟩)⟩
              · have f420 := f0.tr f406 rfl
                show wp _ _ 177 45 [(0, .ref r0)] [] _ H401 _
                have u421 := RO_k a414
                refine wp_of e177 c177_45 (rw_goto (p1 := 133) (by decide) ?_)
                have o422 : (xline B n q d) = ((xl2 B n q d).1, (xl2 B n q d).2.1, (xl2 B n q d).2.2) := by
                  unfold xline
                  repeat first | rw [xs_0 (by omega)] | rw [xs_1 (by omega)] | rw [if_pos (by omega)] | rw [if_neg (by omega)]
                  first | done | rfl | assumption | (exfalso; omega) | (refine Prod.ext ?_ (Prod.ext ?_ ?_) <;> (try dsimp only) <;> omega)
                have o422a : ((xline B n q d)).1 = (xl2 B n q d).1 := by rw [o422]
                have o422b : ((xline B n q d)).2.1 = (xl2 B n q d).2.1 := by rw [o422]
                have o422c : ((xline B n q d)).2.2 = (xl2 B n q d).2.2 := by rw [o422]
                exact wp_return e177 c177_133 rfl ⟨rfl, w405, f420, rfl, (Or.inr ⟨by omega, (fun a ha ga => (f406 a 3 _ ga rfl)), RO_eq a414 (by omega) (by omega)⟩)⟩
          · show wp _ _ 177 38 [(0, .ref r0)] [vI z389] _ H _
            have y423 := xre_n (B := B) (n := n) (q := q) 2 643584494 rfl (by decide) (by omega)
            refine wp_of e177 c177_38 (rw_if_eq (p1 := 48) (p2 := 41) (by decide) rfl ⟨by omega, by omega⟩ (fun c424 => ?_) (fun c424 => ?_))
            · refine wp_of e177 c177_48 (rw_aload_n (pc' := 49) (v := .ref r0) rfl rfl rfl ?_)
              refine wp_of e177 c177_49 (rw_ldcS (pc' := 51) (k := 78) rfl rfl rfl rfl ?_)
              refine wp_of e177 c177_51 (xc_V (pc' := 54) (r := r0) (as := [.ref 78]) (st := []) (lm_9_114) rfl rfl (Nat.le_of_ble_eq_true rfl) hW g0 sh_42 (by decide) rfl (by decide) (u_178_k (B := B) (n := n) (q := q) (kk := 1574484) hW g0 rfl (by decide +kernel) hRC_r0) (fun R425 T426 H427 p428 => ?_))
              obtain ⟨e429, e431, z432, e430, b433, p434⟩ := p428
              subst e429
              subst e430
              subst e431
              rcases p434 with ⟨a435, a436, a437⟩ | ⟨a438, a439⟩
              · show wp _ _ 177 54 [(0, .ref r0)] [vI z432] _ H _
                have y440 := xre_y (B := B) (n := n) (q := q) 3 1574484 rfl (by decide) (by omega)
                refine wp_of e177 c177_54 (rw_if_eq (p1 := 64) (p2 := 57) (by decide) rfl ⟨by omega, by omega⟩ (fun c441 => ?_) (fun c441 => ?_))
                · exfalso
                  omega
                · refine wp_of e177 c177_57 (rw_aload_n (pc' := 58) (v := .ref r0) rfl rfl rfl ?_)
                  refine wp_of e177 c177_58 (xc_V (pc' := 61) (r := r0) (as := []) (st := []) (lm_9_200) rfl rfl (Nat.le_of_ble_eq_true rfl) hW g0 sh_42 (by decide) rfl (by decide) (u_196_k (B := B) (n := n) (q := q) (d := d) hW g0 qrp grp qrb grb (by omega) hRC_r0 hDM_rp) (fun R442 T443 H444 p445 => ?_))
                  obtain ⟨e446, w448, f449, e447, p450⟩ := p445
                  subst e446
                  subst e447
                  rcases p450 with ⟨a451, a452, a453, a454, a455⟩ | ⟨a456, a457⟩
                  · have f458 := f0.tr f449 rfl
                    show wp _ _ 177 61 [(0, .ref r0)] [] _ H444 _
                    have u459 := RC_k a454
                    have u460 := DM_k a455
                    refine wp_of e177 c177_61 (rw_goto (p1 := 133) (by decide) ?_)
                    have o461 : (xline B n q d) = ((xl3 B n q d).1, (xl3 B n q d).2.1, (xl3 B n q d).2.2) := by
                      unfold xline
                      repeat first | rw [xs_0 (by omega)] | rw [xs_1 (by omega)] | rw [if_pos (by omega)] | rw [if_neg (by omega)]
                      first | done | rfl | assumption | (exfalso; omega) | (refine Prod.ext ?_ (Prod.ext ?_ ?_) <;> (try dsimp only) <;> omega)
                    have o461a : ((xline B n q d)).1 = (xl3 B n q d).1 := by rw [o461]
                    have o461b : ((xline B n q d)).2.1 = (xl3 B n q d).2.1 := by rw [o461]
                    have o461c : ((xline B n q d)).2.2 = (xl3 B n q d).2.2 := by rw [o461]
                    have o462 : xdline B n q d = ((xdap B n (xN B n q) d)) := by
                      unfold xdline
                      repeat first | rw [xs_0 (by omega)] | rw [xs_1 (by omega)] | rw [if_pos (by omega)] | rw [if_neg (by omega)]
                      first | done | rfl
                    exact wp_return e177 c177_133 rfl ⟨rfl, w448, f458, rfl, (Or.inl ⟨by omega, by omega, (fun a ha ga => (f449 a 3 _ ga rfl)), by rw [show (xline B n q d).2.2 = ((xN B n (xN B n (xN B n (xN B n q))))) by omega]; exact a454, by rw [o462]; exact a455⟩)⟩
                  · have f463 := f0.tr f449 rfl
                    show wp _ _ 177 61 [(0, .ref r0)] [] _ H444 _
                    have u464 := RO_k a457
                    refine wp_of e177 c177_61 (rw_goto (p1 := 133) (by decide) ?_)
                    have o465 : (xline B n q d) = ((xl3 B n q d).1, (xl3 B n q d).2.1, (xl3 B n q d).2.2) := by
                      unfold xline
                      repeat first | rw [xs_0 (by omega)] | rw [xs_1 (by omega)] | rw [if_pos (by omega)] | rw [if_neg (by omega)]
                      first | done | rfl | assumption | (exfalso; omega) | (refine Prod.ext ?_ (Prod.ext ?_ ?_) <;> (try dsimp only) <;> omega)
                    have o465a : ((xline B n q d)).1 = (xl3 B n q d).1 := by rw [o465]
                    have o465b : ((xline B n q d)).2.1 = (xl3 B n q d).2.1 := by rw [o465]
                    have o465c : ((xline B n q d)).2.2 = (xl3 B n q d).2.2 := by rw [o465]
                    exact wp_return e177 c177_133 rfl ⟨rfl, w448, f463, rfl, (Or.inr ⟨by omega, (fun a ha ga => (f449 a 3 _ ga rfl)), RO_eq a457 (by omega) (by omega)⟩)⟩
              · show wp _ _ 177 54 [(0, .ref r0)] [vI z432] _ H _
                have y466 := xre_n (B := B) (n := n) (q := q) 3 1574484 rfl (by decide) (by omega)
                refine wp_of e177 c177_54 (rw_if_eq (p1 := 64) (p2 := 57) (by decide) rfl ⟨by omega, by omega⟩ (fun c467 => ?_) (fun c467 => ?_))
                · refine wp_of e177 c177_64 (rw_aload_n (pc' := 65) (v := .ref r0) rfl rfl rfl ?_)
                  refine wp_of e177 c177_65 (rw_ldcS (pc' := 67) (k := 79) rfl rfl rfl rfl ?_)
                  refine wp_of e177 c177_67 (xc_V (pc' := 70) (r := r0) (as := [.ref 79]) (st := []) (lm_9_114) rfl rfl (Nat.le_of_ble_eq_true rfl) hW g0 sh_42 (by decide) rfl (by decide) (u_178_k (B := B) (n := n) (q := q) (kk := 81486) hW g0 rfl (by decide +kernel) hRC_r0) (fun R468 T469 H470 p471 => ?_))
                  obtain ⟨e472, e474, z475, e473, b476, p477⟩ := p471
                  subst e472
                  subst e473
                  subst e474
                  rcases p477 with ⟨a478, a479, a480⟩ | ⟨a481, a482⟩
                  · show wp _ _ 177 70 [(0, .ref r0)] [vI z475] _ H _
                    have y483 := xre_y (B := B) (n := n) (q := q) 4 81486 rfl (by decide) (by omega)
                    refine wp_of e177 c177_70 (rw_if_eq (p1 := 80) (p2 := 73) (by decide) rfl ⟨by omega, by omega⟩ (fun c484 => ?_) (fun c484 => ?_))
                    · exfalso
                      omega
                    · refine wp_of e177 c177_73 (rw_aload_n (pc' := 74) (v := .ref r0) rfl rfl rfl ?_)
                      refine wp_of e177 c177_74 (xc_V (pc' := 77) (r := r0) (as := []) (st := []) (lm_9_203) rfl rfl (Nat.le_of_ble_eq_true rfl) hW g0 sh_42 (by decide) rfl (by decide) (u_198_k (B := B) (n := n) (q := q) (d := d) hW g0 qrp grp qrb grb (by omega) hRC_r0 hDM_rp) (fun R485 T486 H487 p488 => ?_))
                      obtain ⟨e489, w491, f492, e490, p493⟩ := p488
                      subst e489
                      subst e490
                      rcases p493 with ⟨a494, a495, a496, a497, a498⟩ | ⟨a499, a500⟩
                      · have f501 := f0.tr f492 rfl
                        show wp _ _ 177 77 [(0, .ref r0)] [] _ H487 _
                        have u502 := RC_k a497
                        have u503 := DM_k a498
                        refine wp_of e177 c177_77 (rw_goto (p1 := 133) (by decide) ?_)
                        have o504 : (xline B n q d) = ((xl4 B n q d).1, (xl4 B n q d).2.1, (xl4 B n q d).2.2) := by
                          unfold xline
                          repeat first | rw [xs_0 (by omega)] | rw [xs_1 (by omega)] | rw [if_pos (by omega)] | rw [if_neg (by omega)]
                          first | done | rfl | assumption | (exfalso; omega) | (refine Prod.ext ?_ (Prod.ext ?_ ?_) <;> (try dsimp only) <;> omega)
                        have o504a : ((xline B n q d)).1 = (xl4 B n q d).1 := by rw [o504]
                        have o504b : ((xline B n q d)).2.1 = (xl4 B n q d).2.1 := by rw [o504]
                        have o504c : ((xline B n q d)).2.2 = (xl4 B n q d).2.2 := by rw [o504]
                        have o505 : xdline B n q d = ((xdbo B n (xN B n q) d)) := by
                          unfold xdline
                          repeat first | rw [xs_0 (by omega)] | rw [xs_1 (by omega)] | rw [if_pos (by omega)] | rw [if_neg (by omega)]
                          first | done | rfl
                        exact wp_return e177 c177_133 rfl ⟨rfl, w491, f501, rfl, (Or.inl ⟨by omega, by omega, (fun a ha ga => (f492 a 3 _ ga rfl)), by rw [show (xline B n q d).2.2 = ((xN B n (xN B n q))) by omega]; exact a497, by rw [o505]; exact a498⟩)⟩
                      · have f506 := f0.tr f492 rfl
                        show wp _ _ 177 77 [(0, .ref r0)] [] _ H487 _
                        have u507 := RO_k a500
                        refine wp_of e177 c177_77 (rw_goto (p1 := 133) (by decide) ?_)
                        have o508 : (xline B n q d) = ((xl4 B n q d).1, (xl4 B n q d).2.1, (xl4 B n q d).2.2) := by
                          unfold xline
                          repeat first | rw [xs_0 (by omega)] | rw [xs_1 (by omega)] | rw [if_pos (by omega)] | rw [if_neg (by omega)]
                          first | done | rfl | assumption | (exfalso; omega) | (refine Prod.ext ?_ (Prod.ext ?_ ?_) <;> (try dsimp only) <;> omega)
                        have o508a : ((xline B n q d)).1 = (xl4 B n q d).1 := by rw [o508]
                        have o508b : ((xline B n q d)).2.1 = (xl4 B n q d).2.1 := by rw [o508]
                        have o508c : ((xline B n q d)).2.2 = (xl4 B n q d).2.2 := by rw [o508]
                        exact wp_return e177 c177_133 rfl ⟨rfl, w491, f506, rfl, (Or.inr ⟨by omega, (fun a ha ga => (f492 a 3 _ ga rfl)), RO_eq a500 (by omega) (by omega)⟩)⟩
                  · show wp _ _ 177 70 [(0, .ref r0)] [vI z475] _ H _
                    have y509 := xre_n (B := B) (n := n) (q := q) 4 81486 rfl (by decide) (by omega)
                    refine wp_of e177 c177_70 (rw_if_eq (p1 := 80) (p2 := 73) (by decide) rfl ⟨by omega, by omega⟩ (fun c510 => ?_) (fun c510 => ?_))
                    · refine wp_of e177 c177_80 (rw_aload_n (pc' := 81) (v := .ref r0) rfl rfl rfl ?_)
                      refine wp_of e177 c177_81 (rw_ldcS (pc' := 83) (k := 80) rfl rfl rfl rfl ?_)
                      refine wp_of e177 c177_83 (xc_V (pc' := 86) (r := r0) (as := [.ref 80]) (st := []) (lm_9_114) rfl rfl (Nat.le_of_ble_eq_true rfl) hW g0 sh_42 (by decide) rfl (by decide) (u_178_k (B := B) (n := n) (q := q) (kk := 659117163) hW g0 rfl (by decide +kernel) hRC_r0) (fun R511 T512 H513 p514 => ?_))
                      obtain ⟨e515, e517, z518, e516, b519, p520⟩ := p514
                      subst e515
                      subst e516
                      subst e517
                      rcases p520 with ⟨a521, a522, a523⟩ | ⟨a524, a525⟩
                      · show wp _ _ 177 86 [(0, .ref r0)] [vI z518] _ H _
                        have y526 := xre_y (B := B) (n := n) (q := q) 5 659117163 rfl (by decide) (by omega)
                        refine wp_of e177 c177_86 (rw_if_eq (p1 := 96) (p2 := 89) (by decide) rfl ⟨by omega, by omega⟩ (fun c527 => ?_) (fun c527 => ?_))
                        · exfalso
                          omega
                        · refine wp_of e177 c177_89 (rw_aload_n (pc' := 90) (v := .ref r0) rfl rfl rfl ?_)
                          refine wp_of e177 c177_90 (xc_V (pc' := 93) (r := r0) (as := []) (st := []) (lm_9_206) rfl rfl (Nat.le_of_ble_eq_true rfl) hW g0 sh_42 (by decide) rfl (by decide) (u_199_k (B := B) (n := n) (q := q) (d := d) hW g0 qrp grp qrb grb (by omega) hRC_r0 hDM_rp) (fun R528 T529 H530 p531 => ?_))
                          obtain ⟨e532, w534, f535, e533, p536⟩ := p531
                          subst e532
                          subst e533
                          rcases p536 with ⟨a537, a538, a539, a540, a541⟩ | ⟨a542, a543⟩
                          · have f544 := f0.tr f535 rfl
                            show wp _ _ 177 93 [(0, .ref r0)] [] _ H530 _
                            have u545 := RC_k a540
                            have u546 := DM_k a541
                            refine wp_of e177 c177_93 (rw_goto (p1 := 133) (by decide) ?_)
                            have o547 : (xline B n q d) = ((xl5 B n q d).1, (xl5 B n q d).2.1, (xl5 B n q d).2.2) := by
                              unfold xline
                              repeat first | rw [xs_0 (by omega)] | rw [xs_1 (by omega)] | rw [if_pos (by omega)] | rw [if_neg (by omega)]
                              first | done | rfl | assumption | (exfalso; omega) | (refine Prod.ext ?_ (Prod.ext ?_ ?_) <;> (try dsimp only) <;> omega)
                            have o547a : ((xline B n q d)).1 = (xl5 B n q d).1 := by rw [o547]
                            have o547b : ((xline B n q d)).2.1 = (xl5 B n q d).2.1 := by rw [o547]
                            have o547c : ((xline B n q d)).2.2 = (xl5 B n q d).2.2 := by rw [o547]
                            have o548 : xdline B n q d = ((xdst B n (xN B n q) d)) := by
                              unfold xdline
                              repeat first | rw [xs_0 (by omega)] | rw [xs_1 (by omega)] | rw [if_pos (by omega)] | rw [if_neg (by omega)]
                              first | done | rfl
                            exact wp_return e177 c177_133 rfl ⟨rfl, w534, f544, rfl, (Or.inl ⟨by omega, by omega, (fun a ha ga => (f535 a 3 _ ga rfl)), by rw [show (xline B n q d).2.2 = ((xN B n (xN B n (xN B n (xN B n q))))) by omega]; exact a540, by rw [o548]; exact a541⟩)⟩
                          · have f549 := f0.tr f535 rfl
                            show wp _ _ 177 93 [(0, .ref r0)] [] _ H530 _
                            have u550 := RO_k a543
                            refine wp_of e177 c177_93 (rw_goto (p1 := 133) (by decide) ?_)
                            have o551 : (xline B n q d) = ((xl5 B n q d).1, (xl5 B n q d).2.1, (xl5 B n q d).2.2) := by
                              unfold xline
                              repeat first | rw [xs_0 (by omega)] | rw [xs_1 (by omega)] | rw [if_pos (by omega)] | rw [if_neg (by omega)]
                              first | done | rfl | assumption | (exfalso; omega) | (refine Prod.ext ?_ (Prod.ext ?_ ?_) <;> (try dsimp only) <;> omega)
                            have o551a : ((xline B n q d)).1 = (xl5 B n q d).1 := by rw [o551]
                            have o551b : ((xline B n q d)).2.1 = (xl5 B n q d).2.1 := by rw [o551]
                            have o551c : ((xline B n q d)).2.2 = (xl5 B n q d).2.2 := by rw [o551]
                            exact wp_return e177 c177_133 rfl ⟨rfl, w534, f549, rfl, (Or.inr ⟨by omega, (fun a ha ga => (f535 a 3 _ ga rfl)), RO_eq a543 (by omega) (by omega)⟩)⟩
                      · show wp _ _ 177 86 [(0, .ref r0)] [vI z518] _ H _
                        have y552 := xre_n (B := B) (n := n) (q := q) 5 659117163 rfl (by decide) (by omega)
                        refine wp_of e177 c177_86 (rw_if_eq (p1 := 96) (p2 := 89) (by decide) rfl ⟨by omega, by omega⟩ (fun c553 => ?_) (fun c553 => ?_))
                        · refine wp_of e177 c177_96 (rw_aload_n (pc' := 97) (v := .ref r0) rfl rfl rfl ?_)
                          refine wp_of e177 c177_97 (rw_ldcS (pc' := 99) (k := 81) rfl rfl rfl rfl ?_)
                          refine wp_of e177 c177_99 (xc_V (pc' := 102) (r := r0) (as := [.ref 81]) (st := []) (lm_9_114) rfl rfl (Nat.le_of_ble_eq_true rfl) hW g0 sh_42 (by decide) rfl (by decide) (u_178_k (B := B) (n := n) (q := q) (kk := 671108) hW g0 rfl (by decide +kernel) hRC_r0) (fun R554 T555 H556 p557 => ?_))
                          obtain ⟨e558, e560, z561, e559, b562, p563⟩ := p557
                          subst e558
                          subst e559
                          subst e560
                          rcases p563 with ⟨a564, a565, a566⟩ | ⟨a567, a568⟩
                          · show wp _ _ 177 102 [(0, .ref r0)] [vI z561] _ H _
                            have y569 := xre_y (B := B) (n := n) (q := q) 6 671108 rfl (by decide) (by omega)
                            refine wp_of e177 c177_102 (rw_if_eq (p1 := 112) (p2 := 105) (by decide) rfl ⟨by omega, by omega⟩ (fun c570 => ?_) (fun c570 => ?_))
                            · exfalso
                              omega
                            · refine wp_of e177 c177_105 (rw_aload_n (pc' := 106) (v := .ref r0) rfl rfl rfl ?_)
                              refine wp_of e177 c177_106 (xc_V (pc' := 109) (r := r0) (as := []) (st := []) (lm_9_209) rfl rfl (Nat.le_of_ble_eq_true rfl) hW g0 sh_42 (by decide) rfl (by decide) (u_200_k (B := B) (n := n) (q := q) (d := d) hW g0 qrp grp qrb grb (by omega) hRC_r0 hDM_rp) (fun R571 T572 H573 p574 => ?_))
                              obtain ⟨e575, w577, f578, e576, p579⟩ := p574
                              subst e575
                              subst e576
                              rcases p579 with ⟨a580, a581, a582, a583, a584⟩ | ⟨a585, a586⟩
                              · have f587 := f0.tr f578 rfl
                                show wp _ _ 177 109 [(0, .ref r0)] [] _ H573 _
                                have u588 := RC_k a583
                                have u589 := DM_k a584
                                refine wp_of e177 c177_109 (rw_goto (p1 := 133) (by decide) ?_)
                                have o590 : (xline B n q d) = ((xl6 B n q d).1, (xl6 B n q d).2.1, (xl6 B n q d).2.2) := by
                                  unfold xline
                                  repeat first | rw [xs_0 (by omega)] | rw [xs_1 (by omega)] | rw [if_pos (by omega)] | rw [if_neg (by omega)]
                                  first | done | rfl | assumption | (exfalso; omega) | (refine Prod.ext ?_ (Prod.ext ?_ ?_) <;> (try dsimp only) <;> omega)
                                have o590a : ((xline B n q d)).1 = (xl6 B n q d).1 := by rw [o590]
                                have o590b : ((xline B n q d)).2.1 = (xl6 B n q d).2.1 := by rw [o590]
                                have o590c : ((xline B n q d)).2.2 = (xl6 B n q d).2.2 := by rw [o590]
                                have o591 : xdline B n q d = ((xdtl B n (xN B n q) d)) := by
                                  unfold xdline
                                  repeat first | rw [xs_0 (by omega)] | rw [xs_1 (by omega)] | rw [if_pos (by omega)] | rw [if_neg (by omega)]
                                  first | done | rfl
                                exact wp_return e177 c177_133 rfl ⟨rfl, w577, f587, rfl, (Or.inl ⟨by omega, by omega, (fun a ha ga => (f578 a 3 _ ga rfl)), by rw [show (xline B n q d).2.2 = ((xN B n (xN B n (xN B n (xN B n (xN B n q)))))) by omega]; exact a583, by rw [o591]; exact a584⟩)⟩
                              · have f592 := f0.tr f578 rfl
                                show wp _ _ 177 109 [(0, .ref r0)] [] _ H573 _
                                have u593 := RO_k a586
                                refine wp_of e177 c177_109 (rw_goto (p1 := 133) (by decide) ?_)
                                have o594 : (xline B n q d) = ((xl6 B n q d).1, (xl6 B n q d).2.1, (xl6 B n q d).2.2) := by
                                  unfold xline
                                  repeat first | rw [xs_0 (by omega)] | rw [xs_1 (by omega)] | rw [if_pos (by omega)] | rw [if_neg (by omega)]
                                  first | done | rfl | assumption | (exfalso; omega) | (refine Prod.ext ?_ (Prod.ext ?_ ?_) <;> (try dsimp only) <;> omega)
                                have o594a : ((xline B n q d)).1 = (xl6 B n q d).1 := by rw [o594]
                                have o594b : ((xline B n q d)).2.1 = (xl6 B n q d).2.1 := by rw [o594]
                                have o594c : ((xline B n q d)).2.2 = (xl6 B n q d).2.2 := by rw [o594]
                                exact wp_return e177 c177_133 rfl ⟨rfl, w577, f592, rfl, (Or.inr ⟨by omega, (fun a ha ga => (f578 a 3 _ ga rfl)), RO_eq a586 (by omega) (by omega)⟩)⟩
                          · show wp _ _ 177 102 [(0, .ref r0)] [vI z561] _ H _
                            have y595 := xre_n (B := B) (n := n) (q := q) 6 671108 rfl (by decide) (by omega)
                            refine wp_of e177 c177_102 (rw_if_eq (p1 := 112) (p2 := 105) (by decide) rfl ⟨by omega, by omega⟩ (fun c596 => ?_) (fun c596 => ?_))
                            · refine wp_of e177 c177_112 (rw_aload_n (pc' := 113) (v := .ref r0) rfl rfl rfl ?_)
                              refine wp_of e177 c177_113 (rw_ldcS (pc' := 115) (k := 82) rfl rfl rfl rfl ?_)
                              refine wp_of e177 c177_115 (xc_V (pc' := 118) (r := r0) (as := [.ref 82]) (st := []) (lm_9_114) rfl rfl (Nat.le_of_ble_eq_true rfl) hW g0 sh_42 (by decide) rfl (by decide) (u_178_k (B := B) (n := n) (q := q) (kk := 15931570) hW g0 rfl (by decide +kernel) hRC_r0) (fun R597 T598 H599 p600 => ?_))
                              obtain ⟨e601, e603, z604, e602, b605, p606⟩ := p600
                              subst e601
                              subst e602
                              subst e603
                              rcases p606 with ⟨a607, a608, a609⟩ | ⟨a610, a611⟩
                              · show wp _ _ 177 118 [(0, .ref r0)] [vI z604] _ H _
                                have y612 := xre_y (B := B) (n := n) (q := q) 7 15931570 rfl (by decide) (by omega)
                                refine wp_of e177 c177_118 (rw_if_eq (p1 := 128) (p2 := 121) (by decide) rfl ⟨by omega, by omega⟩ (fun c613 => ?_) (fun c613 => ?_))
                                · exfalso
                                  omega
                                · refine wp_of e177 c177_121 (rw_aload_n (pc' := 122) (v := .ref r0) rfl rfl rfl ?_)
                                  refine wp_of e177 c177_122 (xc_V (pc' := 125) (r := r0) (as := []) (st := []) (lm_9_212) rfl rfl (Nat.le_of_ble_eq_true rfl) hW g0 sh_42 (by decide) rfl (by decide) (u_203_k (B := B) (n := n) (q := q) (d := d) hW g0 qrp grp qrb grb (by omega) hRC_r0 hDM_rp) (fun R614 T615 H616 p617 => ?_))
                                  obtain ⟨e618, w620, f621, e619, p622⟩ := p617
                                  subst e618
                                  subst e619
                                  rcases p622 with ⟨a623, a624, a625, a626, a627⟩ | ⟨a628, a629⟩
                                  · have f630 := f0.tr f621 rfl
                                    show wp _ _ 177 125 [(0, .ref r0)] [] _ H616 _
                                    have u631 := RC_k a626
                                    have u632 := DM_k a627
                                    refine wp_of e177 c177_125 (rw_goto (p1 := 133) (by decide) ?_)
                                    have o633 : (xline B n q d) = ((xl7 B n q d).1, (xl7 B n q d).2.1, (xl7 B n q d).2.2) := by
                                      unfold xline
                                      repeat first | rw [xs_0 (by omega)] | rw [xs_1 (by omega)] | rw [if_pos (by omega)] | rw [if_neg (by omega)]
                                      first | done | rfl | assumption | (exfalso; omega) | (refine Prod.ext ?_ (Prod.ext ?_ ?_) <;> (try dsimp only) <;> omega)
                                    have o633a : ((xline B n q d)).1 = (xl7 B n q d).1 := by rw [o633]
                                    have o633b : ((xline B n q d)).2.1 = (xl7 B n q d).2.1 := by rw [o633]
                                    have o633c : ((xline B n q d)).2.2 = (xl7 B n q d).2.2 := by rw [o633]
                                    have o634 : xdline B n q d = ((xdof B n (xN B n q) d)) := by
                                      unfold xdline
                                      repeat first | rw [xs_0 (by omega)] | rw [xs_1 (by omega)] | rw [if_pos (by omega)] | rw [if_neg (by omega)]
                                      first | done | rfl
                                    exact wp_return e177 c177_133 rfl ⟨rfl, w620, f630, rfl, (Or.inl ⟨by omega, by omega, (fun a ha ga => (f621 a 3 _ ga rfl)), by rw [show (xline B n q d).2.2 = ((xN B n (xN B n (xN B n (xN B n (xN B n q)))))) by omega]; exact a626, by rw [o634]; exact a627⟩)⟩
                                  · have f635 := f0.tr f621 rfl
                                    show wp _ _ 177 125 [(0, .ref r0)] [] _ H616 _
                                    have u636 := RO_k a629
                                    refine wp_of e177 c177_125 (rw_goto (p1 := 133) (by decide) ?_)
                                    have o637 : (xline B n q d) = ((xl7 B n q d).1, (xl7 B n q d).2.1, (xl7 B n q d).2.2) := by
                                      unfold xline
                                      repeat first | rw [xs_0 (by omega)] | rw [xs_1 (by omega)] | rw [if_pos (by omega)] | rw [if_neg (by omega)]
                                      first | done | rfl | assumption | (exfalso; omega) | (refine Prod.ext ?_ (Prod.ext ?_ ?_) <;> (try dsimp only) <;> omega)
                                    have o637a : ((xline B n q d)).1 = (xl7 B n q d).1 := by rw [o637]
                                    have o637b : ((xline B n q d)).2.1 = (xl7 B n q d).2.1 := by rw [o637]
                                    have o637c : ((xline B n q d)).2.2 = (xl7 B n q d).2.2 := by rw [o637]
                                    exact wp_return e177 c177_133 rfl ⟨rfl, w620, f635, rfl, (Or.inr ⟨by omega, (fun a ha ga => (f621 a 3 _ ga rfl)), RO_eq a629 (by omega) (by omega)⟩)⟩
                              · show wp _ _ 177 118 [(0, .ref r0)] [vI z604] _ H _
                                have y638 := xre_n (B := B) (n := n) (q := q) 7 15931570 rfl (by decide) (by omega)
                                refine wp_of e177 c177_118 (rw_if_eq (p1 := 128) (p2 := 121) (by decide) rfl ⟨by omega, by omega⟩ (fun c639 => ?_) (fun c639 => ?_))
                                · refine wp_of e177 c177_128 (rw_aload_n (pc' := 129) (v := .ref r0) rfl rfl rfl ?_)
                                  refine wp_of e177 c177_129 (rw_iconst (pc' := 130) rfl ?_)
                                  refine wp_of e177 c177_130 (xc_V (pc' := 133) (r := r0) (as := [vI 1]) (st := []) (lm_9_121) rfl rfl (Nat.le_of_ble_eq_true rfl) hW g0 sh_42 (by decide) rfl (by decide) (u_181_k (B := B) (n := n) (q := q) hW g0 ⟨by omega, by omega⟩ (by omega) hRC_r0) (fun R640 T641 H642 p643 => ?_))
                                  obtain ⟨e644, w646, f647, e645, p648⟩ := p643
                                  subst e644
                                  subst e645
                                  have f650 := f0.tr f647 rfl
                                  show wp _ _ 177 133 [(0, .ref r0)] [] _ H642 _
                                  have u651 := RO_k p648
                                  have o652 : (xline B n q d) = (1, q, q) := by
                                    unfold xline
                                    repeat first | rw [xs_0 (by omega)] | rw [xs_1 (by omega)] | rw [if_pos (by omega)] | rw [if_neg (by omega)]
                                    first | done | rfl | assumption | (exfalso; omega) | (refine Prod.ext ?_ (Prod.ext ?_ ?_) <;> (try dsimp only) <;> omega)
                                  have o652a : ((xline B n q d)).1 = 1 := by rw [o652]
                                  have o652b : ((xline B n q d)).2.1 = q := by rw [o652]
                                  have o652c : ((xline B n q d)).2.2 = q := by rw [o652]
                                  exact wp_return e177 c177_133 rfl ⟨rfl, w646, f650, rfl, (Or.inr ⟨by omega, (fun a ha ga => (f647 a 3 _ ga rfl)), RO_eq p648 (by omega) (by omega)⟩)⟩
                                · exfalso
                                  omega
                            · exfalso
                              omega
                        · exfalso
                          omega
                    · exfalso
                      omega
                · exfalso
                  omega
            · exfalso
              omega
        · exfalso
          omega
    · exfalso
      omega
/-! StrikeAwakeModel.readLine()V o -/
abbrev uq_177_o (r0 : Nat) (rp : Nat) (rb : Nat) (fo : Int) (po : Int) (T : wq_T) (H : wq_H) : Option Value → wq_T → wq_H → Prop := fun r T' H' => T = T' ∧ H = H' ∧ none = r ∧ ((RO T H r0 fo po))
set_option maxHeartbeats 4000000 in
theorem u_177_o {kt : Nat → Option mc_E} {T : wq_T} {H : wq_H} {r0 : Nat} {rp : Nat} {rb : Nat} {fo : Int} {po : Int} (hW : WT T H) (g0 : T.2.2.2 r0 = some 42) (qrp : H r0 4 = (rp : Int)) (grp : T.2.2.2 rp = some 54) (qrb : H r0 5 = (rb : Int)) (grb : T.2.2.2 rb = some 43) (hRO_r0 : RO T H r0 fo po) : wpc kt 8 177 [.ref r0] T H (uq_177_o r0 rp rb fo po T H) := by
  refine wp_enter e177 (Nat.le_of_ble_eq_true rfl) rfl ?_
  show wp _ _ 177 0 [(0, .ref r0)] [] _ H _
  have u106 := RO_k hRO_r0
  refine wp_of e177 c177_0 (rw_aload_n (pc' := 1) (v := .ref r0) rfl rfl rfl ?_)
  refine wp_of e177 c177_1 (rw_ldcS (pc' := 3) (k := 72) rfl rfl rfl rfl ?_)
  refine wp_of e177 c177_3 (xc_V (pc' := 6) (r := r0) (as := [.ref 72]) (st := []) (lm_9_114) rfl rfl (Nat.le_of_ble_eq_true rfl) hW g0 sh_42 (by decide) rfl (by decide) (u_178_o (fo := fo) (po := po) (kk := 12343) hW g0 rfl (by decide +kernel) hRO_r0) (fun R107 T108 H109 p110 => ?_))
  obtain ⟨e111, e113, z114, e112, b115, p116⟩ := p110
  subst e111
  subst e112
  subst e113
  show wp _ _ 177 6 [(0, .ref r0)] [vI z114] _ H _
  refine wp_of e177 c177_6 (rw_if_eq (p1 := 16) (p2 := 9) (by decide) rfl ⟨by omega, by omega⟩ (fun c118 => ?_) (fun c118 => ?_))
  · refine wp_of e177 c177_16 (rw_aload_n (pc' := 17) (v := .ref r0) rfl rfl rfl ?_)
    refine wp_of e177 c177_17 (rw_ldcS (pc' := 19) (k := 76) rfl rfl rfl rfl ?_)
    refine wp_of e177 c177_19 (xc_V (pc' := 22) (r := r0) (as := [.ref 76]) (st := []) (lm_9_114) rfl rfl (Nat.le_of_ble_eq_true rfl) hW g0 sh_42 (by decide) rfl (by decide) (u_178_o (fo := fo) (po := po) (kk := 542723566) hW g0 rfl (by decide +kernel) hRO_r0) (fun R119 T120 H121 p122 => ?_))
    obtain ⟨e123, e125, z126, e124, b127, p128⟩ := p122
    subst e123
    subst e124
    subst e125
    show wp _ _ 177 22 [(0, .ref r0)] [vI z126] _ H _
    refine wp_of e177 c177_22 (rw_if_eq (p1 := 32) (p2 := 25) (by decide) rfl ⟨by omega, by omega⟩ (fun c130 => ?_) (fun c130 => ?_))
    · refine wp_of e177 c177_32 (rw_aload_n (pc' := 33) (v := .ref r0) rfl rfl rfl ?_)
      refine wp_of e177 c177_33 (rw_ldcS (pc' := 35) (k := 77) rfl rfl rfl rfl ?_)
      refine wp_of e177 c177_35 (xc_V (pc' := 38) (r := r0) (as := [.ref 77]) (st := []) (lm_9_114) rfl rfl (Nat.le_of_ble_eq_true rfl) hW g0 sh_42 (by decide) rfl (by decide) (u_178_o (fo := fo) (po := po) (kk := 643584494) hW g0 rfl (by decide +kernel) hRO_r0) (fun R131 T132 H133 p134 => ?_))
      obtain ⟨e135, e137, z138, e136, b139, p140⟩ := p134
      subst e135
      subst e136
      subst e137
      show wp _ _ 177 38 [(0, .ref r0)] [vI z138] _ H _
      refine wp_of e177 c177_38 (rw_if_eq (p1 := 48) (p2 := 41) (by decide) rfl ⟨by omega, by omega⟩ (fun c142 => ?_) (fun c142 => ?_))
      · refine wp_of e177 c177_48 (rw_aload_n (pc' := 49) (v := .ref r0) rfl rfl rfl ?_)
        refine wp_of e177 c177_49 (rw_ldcS (pc' := 51) (k := 78) rfl rfl rfl rfl ?_)
        refine wp_of e177 c177_51 (xc_V (pc' := 54) (r := r0) (as := [.ref 78]) (st := []) (lm_9_114) rfl rfl (Nat.le_of_ble_eq_true rfl) hW g0 sh_42 (by decide) rfl (by decide) (u_178_o (fo := fo) (po := po) (kk := 1574484) hW g0 rfl (by decide +kernel) hRO_r0) (fun R143 T144 H145 p146 => ?_))
        obtain ⟨e147, e149, z150, e148, b151, p152⟩ := p146
        subst e147
        subst e148
        subst e149
        show wp _ _ 177 54 [(0, .ref r0)] [vI z150] _ H _
        refine wp_of e177 c177_54 (rw_if_eq (p1 := 64) (p2 := 57) (by decide) rfl ⟨by omega, by omega⟩ (fun c154 => ?_) (fun c154 => ?_))
        · refine wp_of e177 c177_64 (rw_aload_n (pc' := 65) (v := .ref r0) rfl rfl rfl ?_)
          refine wp_of e177 c177_65 (rw_ldcS (pc' := 67) (k := 79) rfl rfl rfl rfl ?_)
          refine wp_of e177 c177_67 (xc_V (pc' := 70) (r := r0) (as := [.ref 79]) (st := []) (lm_9_114) rfl rfl (Nat.le_of_ble_eq_true rfl) hW g0 sh_42 (by decide) rfl (by decide) (u_178_o (fo := fo) (po := po) (kk := 81486) hW g0 rfl (by decide +kernel) hRO_r0) (fun R155 T156 H157 p158 => ?_))
          obtain ⟨e159, e161, z162, e160, b163, p164⟩ := p158
          subst e159
          subst e160
          subst e161
          show wp _ _ 177 70 [(0, .ref r0)] [vI z162] _ H _
          refine wp_of e177 c177_70 (rw_if_eq (p1 := 80) (p2 := 73) (by decide) rfl ⟨by omega, by omega⟩ (fun c166 => ?_) (fun c166 => ?_))
          · refine wp_of e177 c177_80 (rw_aload_n (pc' := 81) (v := .ref r0) rfl rfl rfl ?_)
            refine wp_of e177 c177_81 (rw_ldcS (pc' := 83) (k := 80) rfl rfl rfl rfl ?_)
            refine wp_of e177 c177_83 (xc_V (pc' := 86) (r := r0) (as := [.ref 80]) (st := []) (lm_9_114) rfl rfl (Nat.le_of_ble_eq_true rfl) hW g0 sh_42 (by decide) rfl (by decide) (u_178_o (fo := fo) (po := po) (kk := 659117163) hW g0 rfl (by decide +kernel) hRO_r0) (fun R167 T168 H169 p170 => ?_))
            obtain ⟨e171, e173, z174, e172, b175, p176⟩ := p170
            subst e171
            subst e172
            subst e173
            show wp _ _ 177 86 [(0, .ref r0)] [vI z174] _ H _
            refine wp_of e177 c177_86 (rw_if_eq (p1 := 96) (p2 := 89) (by decide) rfl ⟨by omega, by omega⟩ (fun c178 => ?_) (fun c178 => ?_))
            · refine wp_of e177 c177_96 (rw_aload_n (pc' := 97) (v := .ref r0) rfl rfl rfl ?_)
              refine wp_of e177 c177_97 (rw_ldcS (pc' := 99) (k := 81) rfl rfl rfl rfl ?_)
              refine wp_of e177 c177_99 (xc_V (pc' := 102) (r := r0) (as := [.ref 81]) (st := []) (lm_9_114) rfl rfl (Nat.le_of_ble_eq_true rfl) hW g0 sh_42 (by decide) rfl (by decide) (u_178_o (fo := fo) (po := po) (kk := 671108) hW g0 rfl (by decide +kernel) hRO_r0) (fun R179 T180 H181 p182 => ?_))
              obtain ⟨e183, e185, z186, e184, b187, p188⟩ := p182
              subst e183
              subst e184
              subst e185
              show wp _ _ 177 102 [(0, .ref r0)] [vI z186] _ H _
              refine wp_of e177 c177_102 (rw_if_eq (p1 := 112) (p2 := 105) (by decide) rfl ⟨by omega, by omega⟩ (fun c190 => ?_) (fun c190 => ?_))
              · refine wp_of e177 c177_112 (rw_aload_n (pc' := 113) (v := .ref r0) rfl rfl rfl ?_)
                refine wp_of e177 c177_113 (rw_ldcS (pc' := 115) (k := 82) rfl rfl rfl rfl ?_)
                refine wp_of e177 c177_115 (xc_V (pc' := 118) (r := r0) (as := [.ref 82]) (st := []) (lm_9_114) rfl rfl (Nat.le_of_ble_eq_true rfl) hW g0 sh_42 (by decide) rfl (by decide) (u_178_o (fo := fo) (po := po) (kk := 15931570) hW g0 rfl (by decide +kernel) hRO_r0) (fun R191 T192 H193 p194 => ?_))
                obtain ⟨e195, e197, z198, e196, b199, p200⟩ := p194
                subst e195
                subst e196
                subst e197
                show wp _ _ 177 118 [(0, .ref r0)] [vI z198] _ H _
                refine wp_of e177 c177_118 (rw_if_eq (p1 := 128) (p2 := 121) (by decide) rfl ⟨by omega, by omega⟩ (fun c202 => ?_) (fun c202 => ?_))
                · refine wp_of e177 c177_128 (rw_aload_n (pc' := 129) (v := .ref r0) rfl rfl rfl ?_)
                  refine wp_of e177 c177_129 (rw_iconst (pc' := 130) rfl ?_)
                  refine wp_of e177 c177_130 (xc_V (pc' := 133) (r := r0) (as := [vI 1]) (st := []) (lm_9_121) rfl rfl (Nat.le_of_ble_eq_true rfl) hW g0 sh_42 (by decide) rfl (by decide) (u_181_o (fo := fo) (po := po) hW g0 ⟨by omega, by omega⟩ hRO_r0) (fun R203 T204 H205 p206 => ?_))
                  obtain ⟨e207, e209, e208, p210⟩ := p206
                  subst e207
                  subst e208
                  subst e209
                  show wp _ _ 177 133 [(0, .ref r0)] [] _ H _
                  have u212 := RO_k p210
                  exact wp_return e177 c177_133 rfl ⟨rfl, rfl, rfl, (p210)⟩
                · exfalso
                  omega
              · exfalso
                omega
            · exfalso
              omega
          · exfalso
            omega
        · exfalso
          omega
      · exfalso
        omega
    · exfalso
      omega
  · exfalso
    omega
/-! StrikeAwakeModel.readParish()V k -/
abbrev uq_176_k (r0 : Nat) (rp : Nat) (rb : Nat) (B : Nat → Int) (n : Int) (q : Int) (d : xD) (f : Nat) (T : wq_T) (H : wq_H) : Option Value → wq_T → wq_H → Prop := fun r T' H' => T = T' ∧ WT T H' ∧ wfr [(54, 0), (54, 1), (54, 2), (54, 3), (54, 4), (54, 5), (54, 6), (54, 7), (54, 8), (42, 8), (42, 9), (42, 10), (42, 11), (42, 12), (42, 13), (42, 14), (42, 15), (42, 16), (42, 17), (42, 18), (64, 999), (65, 999), (56, 999), (57, 999), (66, 999), (60, 999), (63, 999), (58, 999), (59, 999), (55, 999), (61, 999), (62, 999), (72, 999), (71, 999), (67, 999), (68, 999), (69, 999)] T H H' ∧ none = r ∧ (((((xpf B n f q d).1).1 = 0) ∧ (H' r0 13 = 0) ∧ (∀ a, a ≠ rp → T.2.2.2 a = some 54 → H' a 3 = H a 3) ∧ DM T H' rp r0 ((xpf B n f q d).2)) ∨ ((((xpf B n f q d).1).1 ≠ 0) ∧ (∀ a, a ≠ rp → T.2.2.2 a = some 54 → H' a 3 = H a 3) ∧ RO T H' r0 (((xpf B n f q d).1).1) (((xpf B n f q d).1).2.1)))
set_option maxHeartbeats 4000000 in
theorem u_176_k {kt : Nat → Option mc_E} {T : wq_T} {H : wq_H} {r0 : Nat} {rp : Nat} {rb : Nat} {B : Nat → Int} {n : Int} {q : Int} {d : xD} {f : Nat} (hW : WT T H) (g0 : T.2.2.2 r0 = some 42) (qrp : H r0 4 = (rp : Int)) (grp : T.2.2.2 rp = some 54) (qrb : H r0 5 = (rb : Int)) (grb : T.2.2.2 rb = some 43) (p0 : n - q < f) (hRC_r0 : RC T H r0 B n q) (hDM_rp : DM T H rp r0 d) : wpc kt 9 176 [.ref r0] T H (uq_176_k r0 rp rb B n q d f T H) := by
  refine wp_enter e176 (Nat.le_of_ble_eq_true rfl) rfl ?_
  have f0 : wfr [(54, 0), (54, 1), (54, 2), (54, 3), (54, 4), (54, 5), (54, 6), (54, 7), (54, 8), (42, 8), (42, 9), (42, 10), (42, 11), (42, 12), (42, 13), (42, 14), (42, 15), (42, 16), (42, 17), (42, 18), (64, 999), (65, 999), (56, 999), (57, 999), (66, 999), (60, 999), (63, 999), (58, 999), (59, 999), (55, 999), (61, 999), (62, 999), (72, 999), (71, 999), (67, 999), (68, 999), (69, 999)] T H H := wfr.rf
  show wp _ _ 176 0 [(0, .ref r0)] [] _ H _
  have u527 := RC_k hRC_r0
  have u528 := DM_k hDM_rp
  refine wp_of e176 c176_0 (rw_iconst (pc' := 1) rfl ?_)
  refine wp_of e176 c176_1 (rw_istore_n (pc' := 2) (z := 1) (L' := [(1, vI 1), (0, .ref r0)]) rfl rfl rfl ?_)
  have lp879 : ∀ (n880 : Nat) (v882 : Int) (H883 : wq_H) (q884 : Int) (d885 : xD) (f886 : Nat), WT T H883 → wfr [(54, 0), (54, 1), (54, 2), (54, 3), (54, 4), (54, 5), (54, 6), (54, 7), (54, 8), (42, 8), (42, 9), (42, 10), (42, 11), (42, 12), (42, 13), (42, 14), (42, 15), (42, 16), (42, 17), (42, 18), (64, 999), (65, 999), (56, 999), (57, 999), (66, 999), (60, 999), (63, 999), (58, 999), (59, 999), (55, 999), (61, 999), (62, 999), (72, 999), (71, 999), (67, 999), (68, 999), (69, 999)] T H H883 → (1 ≤ v882 ∧ v882 ≤ 1) → (∀ a, a ≠ rp → T.2.2.2 a = some 54 → H883 a 3 = H a 3) → RC T H883 r0 B n q884 → DM T H883 rp r0 d885 → (n - q884 < f886) → (xpf B n f886 q884 d885 = xpf B n f q d) → (901 - q884).toNat = n880 → wp kt 8 176 2 [(1, vI v882), (0, .ref r0)] [] T H883 (uq_176_k r0 rp rb B n q d f T H) := by
    intro n880
    induction n880 using Nat.strongRecOn with
    | _ n880 ih881 =>
      intro v882 H883 q884 d885 f886 w887 f888 b889 x890 h892 h893 x894 x895 m891
      have f896 := f0.tr f888 rfl
      have u897 := RC_k h892
      have u898 := DM_k h893
      obtain ⟨gf, hg⟩ : ∃ g : Nat, f886 = g + 1 := ⟨f886 - 1, by omega⟩
      have hx : xpf B n (gf + 1) q884 d885 = xpf B n f q d := by
        rw [← hg]
        exact ‹xpf B n f886 q884 d885 = xpf B n f q d›
      refine wp_of e176 c176_2 (rw_iload_n (pc' := 3) (z := v882) rfl rfl ?_)
      refine wp_of e176 c176_3 (rw_if_eq (p1 := 20) (p2 := 6) (by decide) rfl ⟨by omega, by omega⟩ (fun c899 => ?_) (fun c899 => ?_))
      · exfalso
        omega
      · refine wp_of e176 c176_6 (rw_aload_n (pc' := 7) (v := .ref r0) rfl rfl rfl ?_)
        have k900 : H883 r0 4 = H r0 4 := (f888 r0 4 _ g0 rfl)
        have q901 : H883 r0 4 = (rp : Int) := k900.trans qrp
        have k902 : H883 r0 5 = H r0 5 := (f888 r0 5 _ g0 rfl)
        have q903 : H883 r0 5 = (rb : Int) := k902.trans qrb
        refine wp_of e176 c176_7 (xc_V (pc' := 10) (r := r0) (as := []) (st := []) (lm_9_179) rfl rfl (Nat.le_of_ble_eq_true rfl) w887 g0 sh_42 (by decide) rfl (by decide) (u_177_k (B := B) (n := n) (q := q884) (d := d885) w887 g0 q901 grp q903 grb h892 h893) (fun R904 T905 H906 p907 => ?_))
        obtain ⟨e908, w910, f911, e909, p912⟩ := p907
        subst e908
        subst e909
        rcases p912 with ⟨a913, a914, a915, a916, a917⟩ | ⟨a918, a919, a920⟩
        · have f921 := f896.tr f911 rfl
          have f922 := f888.tr f911 rfl
          show wp _ _ 176 10 [(1, vI v882), (0, .ref r0)] [] _ H906 _
          have u923 := RC_k a916
          have u924 := DM_k a917
          have _e := RC_e a916
          refine wp_of e176 c176_10 (rw_aload_n (pc' := 11) (v := .ref r0) rfl rfl rfl ?_)
          refine wp_of e176 c176_11 (rw_bipush (pc' := 13) (z := 59) rfl (by decide) ?_)
          have k925 : H906 r0 5 = H883 r0 5 := (f911 r0 5 _ g0 rfl)
          have q926 : H906 r0 5 = (rb : Int) := k925.trans q903
          refine wp_of e176 c176_13 (xc_V (pc' := 16) (r := r0) (as := [vI 59]) (st := []) (lm_9_182) rfl rfl (Nat.le_of_ble_eq_true rfl) w910 g0 sh_42 (by decide) rfl (by decide) (u_204_k (B := B) (n := n) (q := ((xline B n q884 d885).2.2)) (kd := 3) w910 g0 ⟨by omega, by omega⟩ q926 grb (by omega) a916) (fun R927 T928 H929 p930 => ?_))
          obtain ⟨e931, w933, f934, z935, e932, b936, p937⟩ := p930
          subst e931
          subst e932
          rcases p937 with ⟨a938, a939, a940, a941⟩ | ⟨a942, a943, a944, a945⟩
          · have f946 := f921.tr f934 rfl
            have f947 := f922.tr f934 rfl
            show wp _ _ 176 16 [(1, vI v882), (0, .ref r0)] [vI z935] _ H929 _
            have u948 := RC_k a941
            refine wp_of e176 c176_16 (rw_istore_n (pc' := 17) (z := z935) (L' := [(1, vI z935), (0, .ref r0)]) rfl rfl rfl ?_)
            refine wp_of e176 c176_17 (rw_goto (p1 := 2) (by decide) ?_)
            have h949 : DM T H929 rp r0 (xdline B n q884 d885) := (DM_fr w910 grp f934 rfl a917)
            exact wp_lc (ks := [1, 0]) (wl_c rfl (wl_c rfl wl_n)) rfl (by decide) (ih881 _ (by omega) z935 H929 ((xN B n ((xline B n q884 d885).2.2))) (xdline B n q884 d885) gf w933 f947 ⟨by omega, by omega⟩ (fun a ha ga => ((f934 a 3 _ ga rfl).trans ((a915 a ha ga).trans (x890 a ha ga)))) a941 h949 (by omega) (by rw [← hx, xpf_u, if_pos (by omega), if_neg (by omega), if_pos (by omega)]) rfl)
          · have f950 := f921.tr f934 rfl
            have f951 := f922.tr f934 rfl
            show wp _ _ 176 16 [(1, vI v882), (0, .ref r0)] [vI z935] _ H929 _
            have u952 := RC_k a945
            refine wp_of e176 c176_16 (rw_istore_n (pc' := 17) (z := z935) (L' := [(1, vI z935), (0, .ref r0)]) rfl rfl rfl ?_)
            refine wp_of e176 c176_17 (rw_goto (p1 := 2) (by decide) ?_)
            refine wp_of e176 c176_2 (rw_iload_n (pc' := 3) (z := z935) rfl rfl ?_)
            refine wp_of e176 c176_3 (rw_if_eq (p1 := 20) (p2 := 6) (by decide) rfl ⟨by omega, by omega⟩ (fun c953 => ?_) (fun c953 => ?_))
            · have _s := RC_s a945
              refine wp_of e176 c176_20 (rw_aload_n (pc' := 21) (v := .ref r0) rfl rfl rfl ?_)
              refine wp_of e176 c176_21 (xg_I (pc' := 24) lf_9_75 w933 g0 sh_42 (by decide) (by decide) ty_42_9 rfl rfl (fun b954 b955 => ?_))
              refine wp_of e176 c176_24 (rw_iconst (pc' := 25) rfl ?_)
              refine wp_of e176 c176_25 (rw_icmp_eq (p1 := 33) (p2 := 28) (by decide) rfl ⟨by omega, by omega⟩ ⟨by omega, by omega⟩ (fun c956 => ?_) (fun c956 => ?_))
              · refine wp_of e176 c176_33 (rw_aload_n (pc' := 34) (v := .ref r0) rfl rfl rfl ?_)
                have k957 : H929 r0 4 = H883 r0 4 := ((f934 r0 4 _ g0 rfl).trans (f911 r0 4 _ g0 rfl))
                have q958 : H929 r0 4 = (rp : Int) := k957.trans q901
                refine wp_of e176 c176_34 (xg_K (pc' := 37) lf_9_166 w933 g0 sh_42 (by decide) (by decide) rfl q958 rfl ?_)
                have k959 : H929 rp 0 = H906 rp 0 := (f934 rp 0 _ grp rfl)
                refine wp_of e176 c176_37 (xg_I (pc' := 40) lf_9_185 w933 grp sh_54 (by decide) (by decide) ty_54_0 rfl rfl (fun b960 b961 => ?_))
                refine wp_of e176 c176_40 (rw_if_eq (p1 := 53) (p2 := 43) (by decide) rfl ⟨by omega, by omega⟩ (fun c962 => ?_) (fun c962 => ?_))
                · refine wp_of e176 c176_53 (rw_aload_n (pc' := 54) (v := .ref r0) rfl rfl rfl ?_)
                  refine wp_of e176 c176_54 (rw_bipush (pc' := 56) (z := 6) rfl (by decide) ?_)
                  refine wp_of e176 c176_56 (xc_V (pc' := 59) (r := r0) (as := [vI 6]) (st := []) (lm_9_121) rfl rfl (Nat.le_of_ble_eq_true rfl) w933 g0 sh_42 (by decide) rfl (by decide) (u_181_k (B := B) (n := n) (q := ((xline B n q884 d885).2.2)) w933 g0 ⟨by omega, by omega⟩ (by omega) a945) (fun R963 T964 H965 p966 => ?_))
                  obtain ⟨e967, w969, f970, e968, p971⟩ := p966
                  subst e967
                  subst e968
                  have f973 := f950.tr f970 rfl
                  show wp _ _ 176 59 [(1, vI z935), (0, .ref r0)] [] _ H965 _
                  have u974 := RO_k p971
                  have o975 : ((xpf B n f q d).1) = (6, ((xline B n q884 d885).2.2), q884) := by
                    rw [← hx, xpf_u]
                    repeat first | rw [xs_0 (by omega)] | rw [xs_1 (by omega)] | rw [if_pos (by omega)] | rw [if_neg (by omega)]
                    first | done | rfl | assumption | (exfalso; omega) | (refine Prod.ext ?_ (Prod.ext ?_ ?_) <;> (try dsimp only) <;> omega)
                  have o975a : (((xpf B n f q d).1)).1 = 6 := by rw [o975]
                  have o975b : (((xpf B n f q d).1)).2.1 = ((xline B n q884 d885).2.2) := by rw [o975]
                  have o975c : (((xpf B n f q d).1)).2.2 = q884 := by rw [o975]
                  exact wp_return e176 c176_59 rfl ⟨rfl, w969, f973, rfl, (Or.inr ⟨by omega, (fun a ha ga => ((f970 a 3 _ ga rfl).trans ((f934 a 3 _ ga rfl).trans ((a915 a ha ga).trans (x890 a ha ga))))), RO_eq p971 (by omega) (by omega)⟩)⟩
                · refine wp_of e176 c176_43 (rw_aload_n (pc' := 44) (v := .ref r0) rfl rfl rfl ?_)
                  refine wp_of e176 c176_44 (xg_K (pc' := 47) lf_9_166 w933 g0 sh_42 (by decide) (by decide) rfl q958 rfl ?_)
                  have k976 : H929 rp 3 = H906 rp 3 := (f934 rp 3 _ grp rfl)
                  refine wp_of e176 c176_47 (xg_I (pc' := 50) lf_9_188 w933 grp sh_54 (by decide) (by decide) ty_54_3 rfl rfl (fun b977 b978 => ?_))
                  refine wp_of e176 c176_50 (rw_if_ne (p1 := 59) (p2 := 53) (by decide) rfl ⟨by omega, by omega⟩ (fun c979 => ?_) (fun c979 => ?_))
                  · have o980 : ((xpf B n f q d).1) = (0, q884, q884) := by
                      rw [← hx, xpf_u]
                      repeat first | rw [xs_0 (by omega)] | rw [xs_1 (by omega)] | rw [if_pos (by omega)] | rw [if_neg (by omega)]
                      first | done | rfl | assumption | (exfalso; omega) | (refine Prod.ext ?_ (Prod.ext ?_ ?_) <;> (try dsimp only) <;> omega)
                    have o980a : (((xpf B n f q d).1)).1 = 0 := by rw [o980]
                    have o980b : (((xpf B n f q d).1)).2.1 = q884 := by rw [o980]
                    have o980c : (((xpf B n f q d).1)).2.2 = q884 := by rw [o980]
                    have h981 : DM T H929 rp r0 (xdline B n q884 d885) := (DM_fr w910 grp f934 rfl a917)
                    exact wp_return e176 c176_59 rfl ⟨rfl, w933, f950, rfl, (Or.inl ⟨by omega, by omega, (fun a ha ga => ((f934 a 3 _ ga rfl).trans ((a915 a ha ga).trans (x890 a ha ga)))), by rw [← hx, xpf_u, if_pos (by omega), if_pos (by omega), if_pos (by omega)]; exact h981⟩)⟩
                  · refine wp_of e176 c176_53 (rw_aload_n (pc' := 54) (v := .ref r0) rfl rfl rfl ?_)
                    refine wp_of e176 c176_54 (rw_bipush (pc' := 56) (z := 6) rfl (by decide) ?_)
                    refine wp_of e176 c176_56 (xc_V (pc' := 59) (r := r0) (as := [vI 6]) (st := []) (lm_9_121) rfl rfl (Nat.le_of_ble_eq_true rfl) w933 g0 sh_42 (by decide) rfl (by decide) (u_181_k (B := B) (n := n) (q := ((xline B n q884 d885).2.2)) w933 g0 ⟨by omega, by omega⟩ (by omega) a945) (fun R982 T983 H984 p985 => ?_))
                    obtain ⟨e986, w988, f989, e987, p990⟩ := p985
                    subst e986
                    subst e987
                    have f992 := f950.tr f989 rfl
                    show wp _ _ 176 59 [(1, vI z935), (0, .ref r0)] [] _ H984 _
                    have u993 := RO_k p990
                    have o994 : ((xpf B n f q d).1) = (6, ((xline B n q884 d885).2.2), q884) := by
                      rw [← hx, xpf_u]
                      repeat first | rw [xs_0 (by omega)] | rw [xs_1 (by omega)] | rw [if_pos (by omega)] | rw [if_neg (by omega)]
                      first | done | rfl | assumption | (exfalso; omega) | (refine Prod.ext ?_ (Prod.ext ?_ ?_) <;> (try dsimp only) <;> omega)
                    have o994a : (((xpf B n f q d).1)).1 = 6 := by rw [o994]
                    have o994b : (((xpf B n f q d).1)).2.1 = ((xline B n q884 d885).2.2) := by rw [o994]
                    have o994c : (((xpf B n f q d).1)).2.2 = q884 := by rw [o994]
                    exact wp_return e176 c176_59 rfl ⟨rfl, w988, f992, rfl, (Or.inr ⟨by omega, (fun a ha ga => ((f989 a 3 _ ga rfl).trans ((f934 a 3 _ ga rfl).trans ((a915 a ha ga).trans (x890 a ha ga))))), RO_eq p990 (by omega) (by omega)⟩)⟩
              · refine wp_of e176 c176_28 (rw_aload_n (pc' := 29) (v := .ref r0) rfl rfl rfl ?_)
                refine wp_of e176 c176_29 (rw_iconst (pc' := 30) rfl ?_)
                refine wp_of e176 c176_30 (xc_V (pc' := 33) (r := r0) (as := [vI 1]) (st := []) (lm_9_121) rfl rfl (Nat.le_of_ble_eq_true rfl) w933 g0 sh_42 (by decide) rfl (by decide) (u_181_k (B := B) (n := n) (q := ((xline B n q884 d885).2.2)) w933 g0 ⟨by omega, by omega⟩ (by omega) a945) (fun R995 T996 H997 p998 => ?_))
                obtain ⟨e999, w1001, f1002, e1000, p1003⟩ := p998
                subst e999
                subst e1000
                have f1005 := f950.tr f1002 rfl
                show wp _ _ 176 33 [(1, vI z935), (0, .ref r0)] [] _ H997 _
                have u1006 := RO_k p1003
                refine wp_of e176 c176_33 (rw_aload_n (pc' := 34) (v := .ref r0) rfl rfl rfl ?_)
                have k1007 : H997 r0 4 = H883 r0 4 := ((f1002 r0 4 _ g0 rfl).trans ((f934 r0 4 _ g0 rfl).trans (f911 r0 4 _ g0 rfl)))
                have q1008 : H997 r0 4 = (rp : Int) := k1007.trans q901
                refine wp_of e176 c176_34 (xg_K (pc' := 37) lf_9_166 w1001 g0 sh_42 (by decide) (by decide) rfl q1008 rfl ?_)
                have k1009 : H997 rp 0 = H906 rp 0 := ((f1002 rp 0 _ grp rfl).trans (f934 rp 0 _ grp rfl))
                refine wp_of e176 c176_37 (xg_I (pc' := 40) lf_9_185 w1001 grp sh_54 (by decide) (by decide) ty_54_0 rfl rfl (fun b1010 b1011 => ?_))
                refine wp_of e176 c176_40 (rw_if_eq (p1 := 53) (p2 := 43) (by decide) rfl ⟨by omega, by omega⟩ (fun c1012 => ?_) (fun c1012 => ?_))
                · refine wp_of e176 c176_53 (rw_aload_n (pc' := 54) (v := .ref r0) rfl rfl rfl ?_)
                  refine wp_of e176 c176_54 (rw_bipush (pc' := 56) (z := 6) rfl (by decide) ?_)
                  refine wp_of e176 c176_56 (xc_V (pc' := 59) (r := r0) (as := [vI 6]) (st := []) (lm_9_121) rfl rfl (Nat.le_of_ble_eq_true rfl) w1001 g0 sh_42 (by decide) rfl (by decide) (u_181_o (fo := 1) (po := (((xline B n q884 d885).2.2))) w1001 g0 ⟨by omega, by omega⟩ p1003) (fun R1013 T1014 H1015 p1016 => ?_))
                  obtain ⟨e1017, e1019, e1018, p1020⟩ := p1016
                  subst e1017
                  subst e1018
                  subst e1019
                  show wp _ _ 176 59 [(1, vI z935), (0, .ref r0)] [] _ H997 _
                  have u1022 := RO_k p1020
                  have o1023 : ((xpf B n f q d).1) = (1, ((xline B n q884 d885).2.2), q884) := by
                    rw [← hx, xpf_u]
                    repeat first | rw [xs_0 (by omega)] | rw [xs_1 (by omega)] | rw [if_pos (by omega)] | rw [if_neg (by omega)]
                    first | done | rfl | assumption | (exfalso; omega) | (refine Prod.ext ?_ (Prod.ext ?_ ?_) <;> (try dsimp only) <;> omega)
                  have o1023a : (((xpf B n f q d).1)).1 = 1 := by rw [o1023]
                  have o1023b : (((xpf B n f q d).1)).2.1 = ((xline B n q884 d885).2.2) := by rw [o1023]
                  have o1023c : (((xpf B n f q d).1)).2.2 = q884 := by rw [o1023]
                  exact wp_return e176 c176_59 rfl ⟨rfl, w1001, f1005, rfl, (Or.inr ⟨by omega, (fun a ha ga => ((f1002 a 3 _ ga rfl).trans ((f934 a 3 _ ga rfl).trans ((a915 a ha ga).trans (x890 a ha ga))))), RO_eq p1020 (by omega) (by omega)⟩)⟩
                · refine wp_of e176 c176_43 (rw_aload_n (pc' := 44) (v := .ref r0) rfl rfl rfl ?_)
                  refine wp_of e176 c176_44 (xg_K (pc' := 47) lf_9_166 w1001 g0 sh_42 (by decide) (by decide) rfl q1008 rfl ?_)
                  have k1024 : H997 rp 3 = H906 rp 3 := ((f1002 rp 3 _ grp rfl).trans (f934 rp 3 _ grp rfl))
                  refine wp_of e176 c176_47 (xg_I (pc' := 50) lf_9_188 w1001 grp sh_54 (by decide) (by decide) ty_54_3 rfl rfl (fun b1025 b1026 => ?_))
                  refine wp_of e176 c176_50 (rw_if_ne (p1 := 59) (p2 := 53) (by decide) rfl ⟨by omega, by omega⟩ (fun c1027 => ?_) (fun c1027 => ?_))
                  · have o1028 : ((xpf B n f q d).1) = (1, ((xline B n q884 d885).2.2), q884) := by
                      rw [← hx, xpf_u]
                      repeat first | rw [xs_0 (by omega)] | rw [xs_1 (by omega)] | rw [if_pos (by omega)] | rw [if_neg (by omega)]
                      first | done | rfl | assumption | (exfalso; omega) | (refine Prod.ext ?_ (Prod.ext ?_ ?_) <;> (try dsimp only) <;> omega)
                    have o1028a : (((xpf B n f q d).1)).1 = 1 := by rw [o1028]
                    have o1028b : (((xpf B n f q d).1)).2.1 = ((xline B n q884 d885).2.2) := by rw [o1028]
                    have o1028c : (((xpf B n f q d).1)).2.2 = q884 := by rw [o1028]
                    exact wp_return e176 c176_59 rfl ⟨rfl, w1001, f1005, rfl, (Or.inr ⟨by omega, (fun a ha ga => ((f1002 a 3 _ ga rfl).trans ((f934 a 3 _ ga rfl).trans ((a915 a ha ga).trans (x890 a ha ga))))), RO_eq p1003 (by omega) (by omega)⟩)⟩
                  · refine wp_of e176 c176_53 (rw_aload_n (pc' := 54) (v := .ref r0) rfl rfl rfl ?_)
                    refine wp_of e176 c176_54 (rw_bipush (pc' := 56) (z := 6) rfl (by decide) ?_)
                    refine wp_of e176 c176_56 (xc_V (pc' := 59) (r := r0) (as := [vI 6]) (st := []) (lm_9_121) rfl rfl (Nat.le_of_ble_eq_true rfl) w1001 g0 sh_42 (by decide) rfl (by decide) (u_181_o (fo := 1) (po := (((xline B n q884 d885).2.2))) w1001 g0 ⟨by omega, by omega⟩ p1003) (fun R1029 T1030 H1031 p1032 => ?_))
                    obtain ⟨e1033, e1035, e1034, p1036⟩ := p1032
                    subst e1033
                    subst e1034
                    subst e1035
                    show wp _ _ 176 59 [(1, vI z935), (0, .ref r0)] [] _ H997 _
                    have u1038 := RO_k p1036
                    have o1039 : ((xpf B n f q d).1) = (1, ((xline B n q884 d885).2.2), q884) := by
                      rw [← hx, xpf_u]
                      repeat first | rw [xs_0 (by omega)] | rw [xs_1 (by omega)] | rw [if_pos (by omega)] | rw [if_neg (by omega)]
                      first | done | rfl | assumption | (exfalso; omega) | (refine Prod.ext ?_ (Prod.ext ?_ ?_) <;> (try dsimp only) <;> omega)
                    have o1039a : (((xpf B n f q d).1)).1 = 1 := by rw [o1039]
                    have o1039b : (((xpf B n f q d).1)).2.1 = ((xline B n q884 d885).2.2) := by rw [o1039]
                    have o1039c : (((xpf B n f q d).1)).2.2 = q884 := by rw [o1039]
                    exact wp_return e176 c176_59 rfl ⟨rfl, w1001, f1005, rfl, (Or.inr ⟨by omega, (fun a ha ga => ((f1002 a 3 _ ga rfl).trans ((f934 a 3 _ ga rfl).trans ((a915 a ha ga).trans (x890 a ha ga))))), RO_eq p1036 (by omega) (by omega)⟩)⟩
            · exfalso
              omega
        · have f1040 := f896.tr f911 rfl
          have f1041 := f888.tr f911 rfl
          show wp _ _ 176 10 [(1, vI v882), (0, .ref r0)] [] _ H906 _
          have u1042 := RO_k a920
          refine wp_of e176 c176_10 (rw_aload_n (pc' := 11) (v := .ref r0) rfl rfl rfl ?_)
          refine wp_of e176 c176_11 (rw_bipush (pc' := 13) (z := 59) rfl (by decide) ?_)
          have k1043 : H906 r0 5 = H883 r0 5 := (f911 r0 5 _ g0 rfl)
          have q1044 : H906 r0 5 = (rb : Int) := k1043.trans q903
          refine wp_of e176 c176_13 (xc_V (pc' := 16) (r := r0) (as := [vI 59]) (st := []) (lm_9_182) rfl rfl (Nat.le_of_ble_eq_true rfl) w910 g0 sh_42 (by decide) rfl (by decide) (u_204_o (fo := ((xline B n q884 d885).1)) (po := ((xline B n q884 d885).2.1)) w910 g0 ⟨by omega, by omega⟩ q1044 grb a920) (fun R1045 T1046 H1047 p1048 => ?_))
          obtain ⟨e1049, e1051, z1052, e1050, b1053, p1054⟩ := p1048
          subst e1049
          subst e1050
          subst e1051
          obtain ⟨a1055, a1056⟩ := p1054
          show wp _ _ 176 16 [(1, vI v882), (0, .ref r0)] [vI z1052] _ H906 _
          have u1057 := RO_k a1056
          refine wp_of e176 c176_16 (rw_istore_n (pc' := 17) (z := z1052) (L' := [(1, vI z1052), (0, .ref r0)]) rfl rfl rfl ?_)
          refine wp_of e176 c176_17 (rw_goto (p1 := 2) (by decide) ?_)
          refine wp_of e176 c176_2 (rw_iload_n (pc' := 3) (z := z1052) rfl rfl ?_)
          refine wp_of e176 c176_3 (rw_if_eq (p1 := 20) (p2 := 6) (by decide) rfl ⟨by omega, by omega⟩ (fun c1058 => ?_) (fun c1058 => ?_))
          · refine wp_of e176 c176_20 (rw_aload_n (pc' := 21) (v := .ref r0) rfl rfl rfl ?_)
            refine wp_of e176 c176_21 (xg_I (pc' := 24) lf_9_75 w910 g0 sh_42 (by decide) (by decide) ty_42_9 rfl rfl (fun b1059 b1060 => ?_))
            refine wp_of e176 c176_24 (rw_iconst (pc' := 25) rfl ?_)
            refine wp_of e176 c176_25 (rw_icmp_eq (p1 := 33) (p2 := 28) (by decide) rfl ⟨by omega, by omega⟩ ⟨by omega, by omega⟩ (fun c1061 => ?_) (fun c1061 => ?_))
            · exfalso
              omega
            · refine wp_of e176 c176_28 (rw_aload_n (pc' := 29) (v := .ref r0) rfl rfl rfl ?_)
              refine wp_of e176 c176_29 (rw_iconst (pc' := 30) rfl ?_)
              refine wp_of e176 c176_30 (xc_V (pc' := 33) (r := r0) (as := [vI 1]) (st := []) (lm_9_121) rfl rfl (Nat.le_of_ble_eq_true rfl) w910 g0 sh_42 (by decide) rfl (by decide) (u_181_o (fo := ((xline B n q884 d885).1)) (po := ((xline B n q884 d885).2.1)) w910 g0 ⟨by omega, by omega⟩ a1056) (fun R1062 T1063 H1064 p1065 => ?_))
              obtain ⟨e1066, e1068, e1067, p1069⟩ := p1065
              subst e1066
              subst e1067
              subst e1068
              show wp _ _ 176 33 [(1, vI z1052), (0, .ref r0)] [] _ H906 _
              have u1071 := RO_k p1069
              refine wp_of e176 c176_33 (rw_aload_n (pc' := 34) (v := .ref r0) rfl rfl rfl ?_)
              have k1072 : H906 r0 4 = H883 r0 4 := (f911 r0 4 _ g0 rfl)
              have q1073 : H906 r0 4 = (rp : Int) := k1072.trans q901
              refine wp_of e176 c176_34 (xg_K (pc' := 37) lf_9_166 w910 g0 sh_42 (by decide) (by decide) rfl q1073 rfl ?_)
              refine wp_of e176 c176_37 (xg_I (pc' := 40) lf_9_185 w910 grp sh_54 (by decide) (by decide) ty_54_0 rfl rfl (fun b1074 b1075 => ?_))
              refine wp_of e176 c176_40 (rw_if_eq (p1 := 53) (p2 := 43) (by decide) rfl ⟨by omega, by omega⟩ (fun c1076 => ?_) (fun c1076 => ?_))
              · refine wp_of e176 c176_53 (rw_aload_n (pc' := 54) (v := .ref r0) rfl rfl rfl ?_)
                refine wp_of e176 c176_54 (rw_bipush (pc' := 56) (z := 6) rfl (by decide) ?_)
                refine wp_of e176 c176_56 (xc_V (pc' := 59) (r := r0) (as := [vI 6]) (st := []) (lm_9_121) rfl rfl (Nat.le_of_ble_eq_true rfl) w910 g0 sh_42 (by decide) rfl (by decide) (u_181_o (fo := ((xline B n q884 d885).1)) (po := ((xline B n q884 d885).2.1)) w910 g0 ⟨by omega, by omega⟩ p1069) (fun R1077 T1078 H1079 p1080 => ?_))
                obtain ⟨e1081, e1083, e1082, p1084⟩ := p1080
                subst e1081
                subst e1082
                subst e1083
                show wp _ _ 176 59 [(1, vI z1052), (0, .ref r0)] [] _ H906 _
                have u1086 := RO_k p1084
                have o1087 : ((xpf B n f q d).1) = ((xline B n q884 d885).1, (xline B n q884 d885).2.1, (xline B n q884 d885).2.2) := by
                  rw [← hx, xpf_u]
                  repeat first | rw [xs_0 (by omega)] | rw [xs_1 (by omega)] | rw [if_pos (by omega)] | rw [if_neg (by omega)]
                  first | done | rfl | assumption | (exfalso; omega) | (refine Prod.ext ?_ (Prod.ext ?_ ?_) <;> (try dsimp only) <;> omega)
                have o1087a : (((xpf B n f q d).1)).1 = (xline B n q884 d885).1 := by rw [o1087]
                have o1087b : (((xpf B n f q d).1)).2.1 = (xline B n q884 d885).2.1 := by rw [o1087]
                have o1087c : (((xpf B n f q d).1)).2.2 = (xline B n q884 d885).2.2 := by rw [o1087]
                exact wp_return e176 c176_59 rfl ⟨rfl, w910, f1040, rfl, (Or.inr ⟨by omega, (fun a ha ga => ((a919 a ha ga).trans (x890 a ha ga))), RO_eq p1084 (by omega) (by omega)⟩)⟩
              · refine wp_of e176 c176_43 (rw_aload_n (pc' := 44) (v := .ref r0) rfl rfl rfl ?_)
                refine wp_of e176 c176_44 (xg_K (pc' := 47) lf_9_166 w910 g0 sh_42 (by decide) (by decide) rfl q1073 rfl ?_)
                refine wp_of e176 c176_47 (xg_I (pc' := 50) lf_9_188 w910 grp sh_54 (by decide) (by decide) ty_54_3 rfl rfl (fun b1088 b1089 => ?_))
                refine wp_of e176 c176_50 (rw_if_ne (p1 := 59) (p2 := 53) (by decide) rfl ⟨by omega, by omega⟩ (fun c1090 => ?_) (fun c1090 => ?_))
                · have o1091 : ((xpf B n f q d).1) = ((xline B n q884 d885).1, (xline B n q884 d885).2.1, (xline B n q884 d885).2.2) := by
                    rw [← hx, xpf_u]
                    repeat first | rw [xs_0 (by omega)] | rw [xs_1 (by omega)] | rw [if_pos (by omega)] | rw [if_neg (by omega)]
                    first | done | rfl | assumption | (exfalso; omega) | (refine Prod.ext ?_ (Prod.ext ?_ ?_) <;> (try dsimp only) <;> omega)
                  have o1091a : (((xpf B n f q d).1)).1 = (xline B n q884 d885).1 := by rw [o1091]
                  have o1091b : (((xpf B n f q d).1)).2.1 = (xline B n q884 d885).2.1 := by rw [o1091]
                  have o1091c : (((xpf B n f q d).1)).2.2 = (xline B n q884 d885).2.2 := by rw [o1091]
                  exact wp_return e176 c176_59 rfl ⟨rfl, w910, f1040, rfl, (Or.inr ⟨by omega, (fun a ha ga => ((a919 a ha ga).trans (x890 a ha ga))), RO_eq p1069 (by omega) (by omega)⟩)⟩
                · refine wp_of e176 c176_53 (rw_aload_n (pc' := 54) (v := .ref r0) rfl rfl rfl ?_)
                  refine wp_of e176 c176_54 (rw_bipush (pc' := 56) (z := 6) rfl (by decide) ?_)
                  refine wp_of e176 c176_56 (xc_V (pc' := 59) (r := r0) (as := [vI 6]) (st := []) (lm_9_121) rfl rfl (Nat.le_of_ble_eq_true rfl) w910 g0 sh_42 (by decide) rfl (by decide) (u_181_o (fo := ((xline B n q884 d885).1)) (po := ((xline B n q884 d885).2.1)) w910 g0 ⟨by omega, by omega⟩ p1069) (fun R1092 T1093 H1094 p1095 => ?_))
                  obtain ⟨e1096, e1098, e1097, p1099⟩ := p1095
                  subst e1096
                  subst e1097
                  subst e1098
                  show wp _ _ 176 59 [(1, vI z1052), (0, .ref r0)] [] _ H906 _
                  have u1101 := RO_k p1099
                  have o1102 : ((xpf B n f q d).1) = ((xline B n q884 d885).1, (xline B n q884 d885).2.1, (xline B n q884 d885).2.2) := by
                    rw [← hx, xpf_u]
                    repeat first | rw [xs_0 (by omega)] | rw [xs_1 (by omega)] | rw [if_pos (by omega)] | rw [if_neg (by omega)]
                    first | done | rfl | assumption | (exfalso; omega) | (refine Prod.ext ?_ (Prod.ext ?_ ?_) <;> (try dsimp only) <;> omega)
                  have o1102a : (((xpf B n f q d).1)).1 = (xline B n q884 d885).1 := by rw [o1102]
                  have o1102b : (((xpf B n f q d).1)).2.1 = (xline B n q884 d885).2.1 := by rw [o1102]
                  have o1102c : (((xpf B n f q d).1)).2.2 = (xline B n q884 d885).2.2 := by rw [o1102]
                  exact wp_return e176 c176_59 rfl ⟨rfl, w910, f1040, rfl, (Or.inr ⟨by omega, (fun a ha ga => ((a919 a ha ga).trans (x890 a ha ga))), RO_eq p1099 (by omega) (by omega)⟩)⟩
          · exfalso
            omega
  exact wp_lc (ks := [1, 0]) (wl_c rfl (wl_c rfl wl_n)) rfl (by decide) (lp879 _ 1 H q d f hW wfr.rf ⟨by omega, by omega⟩ (fun _ _ _ => rfl) hRC_r0 hDM_rp (by omega) (rfl) rfl)
/-! StrikeAwakeModel.readParish()V o -/
abbrev uq_176_o (r0 : Nat) (rp : Nat) (rb : Nat) (fo : Int) (po : Int) (T : wq_T) (H : wq_H) : Option Value → wq_T → wq_H → Prop := fun r T' H' => T = T' ∧ H = H' ∧ none = r ∧ ((RO T H r0 fo po))
set_option maxHeartbeats 4000000 in
theorem u_176_o {kt : Nat → Option mc_E} {T : wq_T} {H : wq_H} {r0 : Nat} {rp : Nat} {rb : Nat} {fo : Int} {po : Int} (hW : WT T H) (g0 : T.2.2.2 r0 = some 42) (qrp : H r0 4 = (rp : Int)) (grp : T.2.2.2 rp = some 54) (qrb : H r0 5 = (rb : Int)) (grb : T.2.2.2 rb = some 43) (hRO_r0 : RO T H r0 fo po) : wpc kt 9 176 [.ref r0] T H (uq_176_o r0 rp rb fo po T H) := by
  refine wp_enter e176 (Nat.le_of_ble_eq_true rfl) rfl ?_
  show wp _ _ 176 0 [(0, .ref r0)] [] _ H _
  have u124 := RO_k hRO_r0
  refine wp_of e176 c176_0 (rw_iconst (pc' := 1) rfl ?_)
  refine wp_of e176 c176_1 (rw_istore_n (pc' := 2) (z := 1) (L' := [(1, vI 1), (0, .ref r0)]) rfl rfl rfl ?_)
  have lp188 : ∀ (n189 : Nat) (v191 : Int), (1 ≤ v191 ∧ v191 ≤ 1) → 0 = n189 → wp kt 8 176 2 [(1, vI v191), (0, .ref r0)] [] T H (uq_176_o r0 rp rb fo po T H) := by
    intro n189
    induction n189 using Nat.strongRecOn with
    | _ n189 ih190 =>
      intro v191 b194 m195
      refine wp_of e176 c176_2 (rw_iload_n (pc' := 3) (z := v191) rfl rfl ?_)
      refine wp_of e176 c176_3 (rw_if_eq (p1 := 20) (p2 := 6) (by decide) rfl ⟨by omega, by omega⟩ (fun c196 => ?_) (fun c196 => ?_))
      · exfalso
        omega
      · refine wp_of e176 c176_6 (rw_aload_n (pc' := 7) (v := .ref r0) rfl rfl rfl ?_)
        refine wp_of e176 c176_7 (xc_V (pc' := 10) (r := r0) (as := []) (st := []) (lm_9_179) rfl rfl (Nat.le_of_ble_eq_true rfl) hW g0 sh_42 (by decide) rfl (by decide) (u_177_o (fo := fo) (po := po) hW g0 qrp grp qrb grb hRO_r0) (fun R197 T198 H199 p200 => ?_))
        obtain ⟨e201, e203, e202, p204⟩ := p200
        subst e201
        subst e202
        subst e203
        show wp _ _ 176 10 [(1, vI v191), (0, .ref r0)] [] _ H _
        have u206 := RO_k p204
        refine wp_of e176 c176_10 (rw_aload_n (pc' := 11) (v := .ref r0) rfl rfl rfl ?_)
        refine wp_of e176 c176_11 (rw_bipush (pc' := 13) (z := 59) rfl (by decide) ?_)
        refine wp_of e176 c176_13 (xc_V (pc' := 16) (r := r0) (as := [vI 59]) (st := []) (lm_9_182) rfl rfl (Nat.le_of_ble_eq_true rfl) hW g0 sh_42 (by decide) rfl (by decide) (u_204_o (fo := fo) (po := po) hW g0 ⟨by omega, by omega⟩ qrb grb p204) (fun R207 T208 H209 p210 => ?_))
        obtain ⟨e211, e213, z214, e212, b215, p216⟩ := p210
        subst e211
        subst e212
        subst e213
        obtain ⟨a217, a218⟩ := p216
        show wp _ _ 176 16 [(1, vI v191), (0, .ref r0)] [vI z214] _ H _
        have u219 := RO_k a218
        refine wp_of e176 c176_16 (rw_istore_n (pc' := 17) (z := z214) (L' := [(1, vI z214), (0, .ref r0)]) rfl rfl rfl ?_)
        refine wp_of e176 c176_17 (rw_goto (p1 := 2) (by decide) ?_)
        refine wp_of e176 c176_2 (rw_iload_n (pc' := 3) (z := z214) rfl rfl ?_)
        refine wp_of e176 c176_3 (rw_if_eq (p1 := 20) (p2 := 6) (by decide) rfl ⟨by omega, by omega⟩ (fun c220 => ?_) (fun c220 => ?_))
        · refine wp_of e176 c176_20 (rw_aload_n (pc' := 21) (v := .ref r0) rfl rfl rfl ?_)
          refine wp_of e176 c176_21 (xg_I (pc' := 24) lf_9_75 hW g0 sh_42 (by decide) (by decide) ty_42_9 rfl rfl (fun b221 b222 => ?_))
          refine wp_of e176 c176_24 (rw_iconst (pc' := 25) rfl ?_)
          refine wp_of e176 c176_25 (rw_icmp_eq (p1 := 33) (p2 := 28) (by decide) rfl ⟨by omega, by omega⟩ ⟨by omega, by omega⟩ (fun c223 => ?_) (fun c223 => ?_))
          · exfalso
            omega
          · refine wp_of e176 c176_28 (rw_aload_n (pc' := 29) (v := .ref r0) rfl rfl rfl ?_)
            refine wp_of e176 c176_29 (rw_iconst (pc' := 30) rfl ?_)
            refine wp_of e176 c176_30 (xc_V (pc' := 33) (r := r0) (as := [vI 1]) (st := []) (lm_9_121) rfl rfl (Nat.le_of_ble_eq_true rfl) hW g0 sh_42 (by decide) rfl (by decide) (u_181_o (fo := fo) (po := po) hW g0 ⟨by omega, by omega⟩ a218) (fun R224 T225 H226 p227 => ?_))
            obtain ⟨e228, e230, e229, p231⟩ := p227
            subst e228
            subst e229
            subst e230
            show wp _ _ 176 33 [(1, vI z214), (0, .ref r0)] [] _ H _
            have u233 := RO_k p231
            refine wp_of e176 c176_33 (rw_aload_n (pc' := 34) (v := .ref r0) rfl rfl rfl ?_)
            refine wp_of e176 c176_34 (xg_K (pc' := 37) lf_9_166 hW g0 sh_42 (by decide) (by decide) rfl qrp rfl ?_)
            refine wp_of e176 c176_37 (xg_I (pc' := 40) lf_9_185 hW grp sh_54 (by decide) (by decide) ty_54_0 rfl rfl (fun b234 b235 => ?_))
            refine wp_of e176 c176_40 (rw_if_eq (p1 := 53) (p2 := 43) (by decide) rfl ⟨by omega, by omega⟩ (fun c236 => ?_) (fun c236 => ?_))
            · refine wp_of e176 c176_53 (rw_aload_n (pc' := 54) (v := .ref r0) rfl rfl rfl ?_)
              refine wp_of e176 c176_54 (rw_bipush (pc' := 56) (z := 6) rfl (by decide) ?_)
              refine wp_of e176 c176_56 (xc_V (pc' := 59) (r := r0) (as := [vI 6]) (st := []) (lm_9_121) rfl rfl (Nat.le_of_ble_eq_true rfl) hW g0 sh_42 (by decide) rfl (by decide) (u_181_o (fo := fo) (po := po) hW g0 ⟨by omega, by omega⟩ p231) (fun R237 T238 H239 p240 => ?_))
              obtain ⟨e241, e243, e242, p244⟩ := p240
              subst e241
              subst e242
              subst e243
              show wp _ _ 176 59 [(1, vI z214), (0, .ref r0)] [] _ H _
              have u246 := RO_k p244
              exact wp_return e176 c176_59 rfl ⟨rfl, rfl, rfl, (p244)⟩
            · refine wp_of e176 c176_43 (rw_aload_n (pc' := 44) (v := .ref r0) rfl rfl rfl ?_)
              refine wp_of e176 c176_44 (xg_K (pc' := 47) lf_9_166 hW g0 sh_42 (by decide) (by decide) rfl qrp rfl ?_)
              refine wp_of e176 c176_47 (xg_I (pc' := 50) lf_9_188 hW grp sh_54 (by decide) (by decide) ty_54_3 rfl rfl (fun b247 b248 => ?_))
              refine wp_of e176 c176_50 (rw_if_ne (p1 := 59) (p2 := 53) (by decide) rfl ⟨by omega, by omega⟩ (fun c249 => ?_) (fun c249 => ?_))
              · exact wp_return e176 c176_59 rfl ⟨rfl, rfl, rfl, (p231)⟩
              · refine wp_of e176 c176_53 (rw_aload_n (pc' := 54) (v := .ref r0) rfl rfl rfl ?_)
                refine wp_of e176 c176_54 (rw_bipush (pc' := 56) (z := 6) rfl (by decide) ?_)
                refine wp_of e176 c176_56 (xc_V (pc' := 59) (r := r0) (as := [vI 6]) (st := []) (lm_9_121) rfl rfl (Nat.le_of_ble_eq_true rfl) hW g0 sh_42 (by decide) rfl (by decide) (u_181_o (fo := fo) (po := po) hW g0 ⟨by omega, by omega⟩ p231) (fun R250 T251 H252 p253 => ?_))
                obtain ⟨e254, e256, e255, p257⟩ := p253
                subst e254
                subst e255
                subst e256
                show wp _ _ 176 59 [(1, vI z214), (0, .ref r0)] [] _ H _
                have u259 := RO_k p257
                exact wp_return e176 c176_59 rfl ⟨rfl, rfl, rfl, (p257)⟩
        · exfalso
          omega
  exact wp_lc (ks := [1, 0]) (wl_c rfl (wl_c rfl wl_n)) rfl (by decide) (lp188 _ 1 ⟨by omega, by omega⟩ rfl)
/-! StrikeAwakeModel.feed(IIIII)I  -/
abbrev uq_168 (r0 : Nat) (a1 : Int) (a2 : Int) (a3 : Int) (a4 : Int) (a5 : Int) (rb : Nat) (B : Nat → Int) (t : Int) (b1 : Int) (b2 : Int) (b3 : Int) (b4 : Int) (b5 : Int) (T : wq_T) (H : wq_H) : Option Value → wq_T → wq_H → Prop := fun r T' H' => T = T' ∧ WT T H' ∧ wfr [(42, 0), (42, 6), (43, 999)] T H H' ∧ ∃ z : Int, some (vI z) = r ∧ ((-2147483648) ≤ z ∧ z ≤ 2147483647) ∧ (((z = -1) ∧ (880 < t) ∧ (H' r0 6 = t) ∧ TM T H' rb B) ∨ ((0 ≤ z ∧ z ≤ 900) ∧ (t ≤ 880) ∧ (z = t + 20) ∧ (H' r0 6 = t + 20) ∧ TM T H' rb (xfk B t b1 b2 b3 b4 b5 20)))
set_option maxHeartbeats 4000000 in
theorem u_168 {kt : Nat → Option mc_E} {T : wq_T} {H : wq_H} {r0 : Nat} {a1 : Int} {a2 : Int} {a3 : Int} {a4 : Int} {a5 : Int} {rb : Nat} {B : Nat → Int} {t : Int} {b1 : Int} {b2 : Int} {b3 : Int} {b4 : Int} {b5 : Int} (hW : WT T H) (g0 : T.2.2.2 r0 = some 42) (i1 : (-2147483648) ≤ a1 ∧ a1 ≤ 2147483647) (i2 : (-2147483648) ≤ a2 ∧ a2 ≤ 2147483647) (i3 : (-2147483648) ≤ a3 ∧ a3 ≤ 2147483647) (i4 : (-2147483648) ≤ a4 ∧ a4 ≤ 2147483647) (i5 : (-2147483648) ≤ a5 ∧ a5 ≤ 2147483647) (qrb : H r0 5 = (rb : Int)) (grb : T.2.2.2 rb = some 43) (p0 : H r0 6 = t) (p1 : a1 = b1) (p2 : a2 = b2) (p3 : a3 = b3) (p4 : a4 = b4) (p5 : a5 = b5) (hTM_rb : TM T H rb B) : wpc kt 1 168 [.ref r0, vI a1, vI a2, vI a3, vI a4, vI a5] T H (uq_168 r0 a1 a2 a3 a4 a5 rb B t b1 b2 b3 b4 b5 T H) := by
  refine wp_enter e168 (Nat.le_of_ble_eq_true rfl) rfl ?_
  have f0 : wfr [(42, 0), (42, 6), (43, 999)] T H H := wfr.rf
  show wp _ _ 168 0 [(0, .ref r0), (1, vI a1), (2, vI a2), (3, vI a3), (4, vI a4), (5, vI a5)] [] _ H _
  have b481 : 0 ≤ H r0 6 ∧ H r0 6 ≤ 900 := hW.box g0 (n := 33) rfl (by decide) rfl
  refine wp_of e168 c168_0 (rw_aload_n (pc' := 1) (v := .ref r0) rfl rfl rfl ?_)
  refine wp_of e168 c168_1 (rw_iconst (pc' := 2) rfl ?_)
  refine wp_of e168 c168_2 (xp_I (pc' := 5) lf_9_48 hW g0 sh_42 (by decide) (by decide) ty_42_0 rfl rfl (by omega) (by omega) ⟨by omega, by omega⟩ rfl (fun H482 e483 w484 => ?_))
  have f485 := f0.put' e483 g0 rfl
  have k486 : H482 r0 0 = 0 := wq_u_s e483
  refine wp_of e168 c168_5 (rw_aload_n (pc' := 6) (v := .ref r0) rfl rfl rfl ?_)
  have k487 : H482 r0 6 = H r0 6 := (wq_u_j e483 rfl)
  refine wp_of e168 c168_6 (xg_I (pc' := 9) lf_9_330 w484 g0 sh_42 (by decide) (by decide) ty_42_6 rfl rfl (fun b488 b489 => ?_))
  refine wp_of e168 c168_9 (rw_bipush (pc' := 11) (z := 20) rfl (by decide) ?_)
  refine wp_of e168 c168_11 (rw_iadd (pc' := 12) rfl ?_)
  refine wp_of e168 c168_12 (rw_sipush (pc' := 15) (z := 900) rfl (by decide) ?_)
  refine wp_of e168 c168_15 (rw_icmp_le (p1 := 20) (p2 := 18) (by decide) rfl ⟨by omega, by omega⟩ ⟨by omega, by omega⟩ (fun c490 => ?_) (fun c490 => ?_))
  · refine wp_of e168 c168_20 (rw_iconst (pc' := 21) rfl ?_)
    refine wp_of e168 c168_21 (rw_istore (pc' := 23) (z := 0) (L' := [(6, vI 0), (0, .ref r0), (1, vI a1), (2, vI a2), (3, vI a3), (4, vI a4), (5, vI a5)]) rfl rfl rfl ?_)
    have lp844 : ∀ (n845 : Nat) (v847 : Int) (H848 : wq_H) (ii849 : Nat), WT T H848 → wfr [(42, 6), (43, 999)] T H482 H848 → (0 ≤ v847 ∧ v847 ≤ 20) → TM T H848 rb (xfk B t a1 a2 a3 a4 a5 ii849) → (v847 = (ii849 : Int)) → (ii849 ≤ 20) → (H848 r0 6 = t + (ii849 : Int)) → (20 - v847).toNat = n845 → wp kt 0 168 23 [(6, vI v847), (0, .ref r0), (1, vI a1), (2, vI a2), (3, vI a3), (4, vI a4), (5, vI a5)] [] T H848 (uq_168 r0 a1 a2 a3 a4 a5 rb B t b1 b2 b3 b4 b5 T H) := by
      intro n845
      induction n845 using Nat.strongRecOn with
      | _ n845 ih846 =>
        intro v847 H848 ii849 w850 f851 b852 h854 x855 x856 x857 m853
        have f858 := f485.tr f851 rfl
        refine wp_of e168 c168_23 (rw_iload (pc' := 25) (z := v847) rfl rfl ?_)
        refine wp_of e168 c168_25 (rw_bipush (pc' := 27) (z := 20) rfl (by decide) ?_)
        refine wp_of e168 c168_27 (rw_icmp_ge (p1 := 117) (p2 := 30) (by decide) rfl ⟨by omega, by omega⟩ ⟨by omega, by omega⟩ (fun c859 => ?_) (fun c859 => ?_))
        · refine wp_of e168 c168_117 (rw_aload_n (pc' := 118) (v := .ref r0) rfl rfl rfl ?_)
          refine wp_of e168 c168_118 (xg_I (pc' := 121) lf_9_330 w850 g0 sh_42 (by decide) (by decide) ty_42_6 rfl rfl (fun b860 b861 => ?_))
          exact wp_ireturn e168 c168_121 rfl ⟨rfl, w850, f858, H848 r0 6, rfl, ⟨by omega, by omega⟩, (Or.inr ⟨by omega, by omega, by omega, by omega, by
            rw [← p1, ← p2, ← p3, ← p4, ← p5]
            have e4 : ii849 = 20 := by omega
            rw [← e4]
            exact h854⟩)⟩
        · refine wp_of e168 c168_30 (rw_iload (pc' := 32) (z := v847) rfl rfl ?_)
          refine wp_of e168 c168_32 (rw_iconst (pc' := 33) rfl ?_)
          refine wp_of e168 c168_33 (rw_icmp_ge (p1 := 40) (p2 := 36) (by decide) rfl ⟨by omega, by omega⟩ ⟨by omega, by omega⟩ (fun c862 => ?_) (fun c862 => ?_))
          · refine wp_of e168 c168_40 (rw_iload (pc' := 42) (z := v847) rfl rfl ?_)
            refine wp_of e168 c168_42 (rw_bipush (pc' := 44) (z := 8) rfl (by decide) ?_)
            refine wp_of e168 c168_44 (rw_icmp_ge (p1 := 51) (p2 := 47) (by decide) rfl ⟨by omega, by omega⟩ ⟨by omega, by omega⟩ (fun c863 => ?_) (fun c863 => ?_))
            · refine wp_of e168 c168_51 (rw_iload (pc' := 53) (z := v847) rfl rfl ?_)
              refine wp_of e168 c168_53 (rw_bipush (pc' := 55) (z := 12) rfl (by decide) ?_)
              refine wp_of e168 c168_55 (rw_icmp_ge (p1 := 62) (p2 := 58) (by decide) rfl ⟨by omega, by omega⟩ ⟨by omega, by omega⟩ (fun c864 => ?_) (fun c864 => ?_))
              · refine wp_of e168 c168_62 (rw_iload (pc' := 64) (z := v847) rfl rfl ?_)
                refine wp_of e168 c168_64 (rw_bipush (pc' := 66) (z := 16) rfl (by decide) ?_)
                refine wp_of e168 c168_66 (rw_icmp_ge (p1 := 74) (p2 := 69) (by decide) rfl ⟨by omega, by omega⟩ ⟨by omega, by omega⟩ (fun c865 => ?_) (fun c865 => ?_))
                · refine wp_of e168 c168_74 (rw_iload (pc' := 76) (z := a5) rfl rfl ?_)
                  refine wp_of e168 c168_76 (rw_istore (pc' := 78) (z := a5) (L' := [(7, vI a5), (6, vI v847), (0, .ref r0), (1, vI a1), (2, vI a2), (3, vI a3), (4, vI a4), (5, vI a5)]) rfl rfl rfl ?_)
                  have _w := @xw5_e ii849 a1 a2 a3 a4 a5
                  refine wp_of e168 c168_78 (rw_aload_n (pc' := 79) (v := .ref r0) rfl rfl rfl ?_)
                  have k866 : H848 r0 5 = H r0 5 := ((f851 r0 5 _ g0 rfl).trans (wq_u_j e483 rfl))
                  have q867 : H848 r0 5 = (rb : Int) := k866.trans qrb
                  refine wp_of e168 c168_79 (xg_K (pc' := 82) lf_9_13 w850 g0 sh_42 (by decide) (by decide) rfl q867 rfl ?_)
                  refine wp_of e168 c168_82 (rw_aload_n (pc' := 83) (v := .ref r0) rfl rfl rfl ?_)
                  refine wp_of e168 c168_83 (xg_I (pc' := 86) lf_9_330 w850 g0 sh_42 (by decide) (by decide) ty_42_6 rfl rfl (fun b868 b869 => ?_))
                  refine wp_of e168 c168_86 (rw_iload (pc' := 88) (z := a5) rfl rfl ?_)
                  refine wp_of e168 c168_88 (rw_bipush (pc' := 90) (z := 24) rfl (by decide) ?_)
                  refine wp_of e168 c168_90 (rw_bipush (pc' := 92) (z := 8) rfl (by decide) ?_)
                  refine wp_of e168 c168_92 (rw_iload (pc' := 94) (z := v847) rfl rfl ?_)
                  refine wp_of e168 c168_94 (rw_iconst (pc' := 95) rfl ?_)
                  refine wp_of e168 c168_95 (rw_irem (pc' := 96) rfl ⟨by omega, by omega⟩ (by omega) ?_)
                  obtain ⟨v870, e871⟩ : ∃ x : Int, x = wq_rem v847 4 := ⟨_, rfl⟩
                  rw [← e871]
                  have b872 : v870 = v847 % 4 := by
                    rw [e871]
                    exact wq_rem_e ⟨by omega, by omega⟩ ⟨by omega, by omega⟩
                  refine wp_of e168 c168_96 (rw_imul (pc' := 97) rfl ?_)
                  refine wp_of e168 c168_97 (rw_isub (pc' := 98) rfl ?_)
                  refine wp_of e168 c168_98 (rw_ishr (pc' := 99) rfl ?_)
                  obtain ⟨v873, e874⟩ : ∃ x : Int, x = wq_shr a5 (24 - (8 * v870)) := ⟨_, rfl⟩
                  rw [← e874]
                  have b875 : -2147483648 ≤ v873 ∧ v873 ≤ 2147483647 := by
                    rw [e874]
                    exact wI_shr _ _
                  refine wp_of e168 c168_99 (rw_i2b (pc' := 100) rfl ?_)
                  obtain ⟨v876, e877⟩ : ∃ x : Int, x = wq_i2b v873 := ⟨_, rfl⟩
                  rw [← e877]
                  have b878 : -128 ≤ v876 ∧ v876 ≤ 127 := by
                    rw [e877]
                    exact wq_i2b_b _
                  have o879 : v876 = wq_i2b (wq_shr a5 (24 - (8 * v870))) := by
                    subst_vars
                    rfl
                  refine wp_of e168 c168_100 (xs_B (pc' := 101) w850 grb (by decide) sh_43 (by decide) (ty_43 _) (by omega) (by omega) ⟨by omega, by omega⟩ (by omega) (by omega) rfl (fun H880 e881 w882 => ?_))
                  have f883 := f858.put' e881 grb rfl
                  have f884 := f851.put' e881 grb rfl
                  have h885 : TM T H880 rb (xfk B t a1 a2 a3 a4 a5 (ii849 + 1)) := TM_fk h854 e881 (by omega) o879 (by omega) (by omega)
                  refine wp_of e168 c168_101 (rw_aload_n (pc' := 102) (v := .ref r0) rfl rfl rfl ?_)
                  refine wp_of e168 c168_102 (rw_dup (pc' := 103) rfl rfl ?_)
                  have k886 : H880 r0 6 = H848 r0 6 := (wq_u_t e881 grb g0 rfl 6)
                  refine wp_of e168 c168_103 (xg_I (pc' := 106) lf_9_330 w882 g0 sh_42 (by decide) (by decide) ty_42_6 rfl rfl (fun b887 b888 => ?_))
                  refine wp_of e168 c168_106 (rw_iconst (pc' := 107) rfl ?_)
                  refine wp_of e168 c168_107 (rw_iadd (pc' := 108) rfl ?_)
                  refine wp_of e168 c168_108 (xp_I (pc' := 111) lf_9_330 w882 g0 sh_42 (by decide) (by decide) ty_42_6 rfl rfl (by omega) (by omega) ⟨by omega, by omega⟩ rfl (fun H889 e890 w891 => ?_))
                  have f892 := f883.put' e890 g0 rfl
                  have f893 := f884.put' e890 g0 rfl
                  have k894 : H889 r0 6 = (H880 r0 6) + 1 := wq_u_s e890
                  refine wp_of e168 c168_111 (rw_iinc (pc' := 114) (z := v847) (L' := [(6, vI (v847 + 1)), (7, vI a5), (0, .ref r0), (1, vI a1), (2, vI a2), (3, vI a3), (4, vI a4), (5, vI a5)]) rfl rfl rfl rfl ?_)
                  refine wp_of e168 c168_114 (rw_goto (p1 := 23) (by decide) ?_)
                  have h895 : TM T H889 rb (xfk B t a1 a2 a3 a4 a5 (ii849 + 1)) := (TM_fr w882 grb ((wfr.rf (l := [(42, 6)])).put' e890 g0 rfl) rfl h885)
                  exact wp_lc (ks := [6, 7, 0, 1, 2, 3, 4, 5]) (wl_c rfl (wl_c rfl (wl_c rfl (wl_c rfl (wl_c rfl (wl_c rfl (wl_c rfl wl_n))))))) rfl (by decide) (ih846 _ (by omega) (v847 + 1) H889 ((ii849 + 1)) w891 f893 ⟨by omega, by omega⟩ h895 (by omega) (by omega) (by omega) rfl)
                · refine wp_of e168 c168_69 (rw_iload (pc' := 71) (z := a4) rfl rfl ?_)
                  refine wp_of e168 c168_71 (rw_goto (p1 := 76) (by decide) ?_)
                  refine wp_of e168 c168_76 (rw_istore (pc' := 78) (z := a4) (L' := [(7, vI a4), (6, vI v847), (0, .ref r0), (1, vI a1), (2, vI a2), (3, vI a3), (4, vI a4), (5, vI a5)]) rfl rfl rfl ?_)
                  have _w := @xw5_e ii849 a1 a2 a3 a4 a5
                  refine wp_of e168 c168_78 (rw_aload_n (pc' := 79) (v := .ref r0) rfl rfl rfl ?_)
                  have k896 : H848 r0 5 = H r0 5 := ((f851 r0 5 _ g0 rfl).trans (wq_u_j e483 rfl))
                  have q897 : H848 r0 5 = (rb : Int) := k896.trans qrb
                  refine wp_of e168 c168_79 (xg_K (pc' := 82) lf_9_13 w850 g0 sh_42 (by decide) (by decide) rfl q897 rfl ?_)
                  refine wp_of e168 c168_82 (rw_aload_n (pc' := 83) (v := .ref r0) rfl rfl rfl ?_)
                  refine wp_of e168 c168_83 (xg_I (pc' := 86) lf_9_330 w850 g0 sh_42 (by decide) (by decide) ty_42_6 rfl rfl (fun b898 b899 => ?_))
                  refine wp_of e168 c168_86 (rw_iload (pc' := 88) (z := a4) rfl rfl ?_)
                  refine wp_of e168 c168_88 (rw_bipush (pc' := 90) (z := 24) rfl (by decide) ?_)
                  refine wp_of e168 c168_90 (rw_bipush (pc' := 92) (z := 8) rfl (by decide) ?_)
                  refine wp_of e168 c168_92 (rw_iload (pc' := 94) (z := v847) rfl rfl ?_)
                  refine wp_of e168 c168_94 (rw_iconst (pc' := 95) rfl ?_)
                  refine wp_of e168 c168_95 (rw_irem (pc' := 96) rfl ⟨by omega, by omega⟩ (by omega) ?_)
                  obtain ⟨v900, e901⟩ : ∃ x : Int, x = wq_rem v847 4 := ⟨_, rfl⟩
                  rw [← e901]
                  have b902 : v900 = v847 % 4 := by
                    rw [e901]
                    exact wq_rem_e ⟨by omega, by omega⟩ ⟨by omega, by omega⟩
                  refine wp_of e168 c168_96 (rw_imul (pc' := 97) rfl ?_)
                  refine wp_of e168 c168_97 (rw_isub (pc' := 98) rfl ?_)
                  refine wp_of e168 c168_98 (rw_ishr (pc' := 99) rfl ?_)
                  obtain ⟨v903, e904⟩ : ∃ x : Int, x = wq_shr a4 (24 - (8 * v900)) := ⟨_, rfl⟩
                  rw [← e904]
                  have b905 : -2147483648 ≤ v903 ∧ v903 ≤ 2147483647 := by
                    rw [e904]
                    exact wI_shr _ _
                  refine wp_of e168 c168_99 (rw_i2b (pc' := 100) rfl ?_)
                  obtain ⟨v906, e907⟩ : ∃ x : Int, x = wq_i2b v903 := ⟨_, rfl⟩
                  rw [← e907]
                  have b908 : -128 ≤ v906 ∧ v906 ≤ 127 := by
                    rw [e907]
                    exact wq_i2b_b _
                  have o909 : v906 = wq_i2b (wq_shr a4 (24 - (8 * v900))) := by
                    subst_vars
                    rfl
                  refine wp_of e168 c168_100 (xs_B (pc' := 101) w850 grb (by decide) sh_43 (by decide) (ty_43 _) (by omega) (by omega) ⟨by omega, by omega⟩ (by omega) (by omega) rfl (fun H910 e911 w912 => ?_))
                  have f913 := f858.put' e911 grb rfl
                  have f914 := f851.put' e911 grb rfl
                  have h915 : TM T H910 rb (xfk B t a1 a2 a3 a4 a5 (ii849 + 1)) := TM_fk h854 e911 (by omega) o909 (by omega) (by omega)
                  refine wp_of e168 c168_101 (rw_aload_n (pc' := 102) (v := .ref r0) rfl rfl rfl ?_)
                  refine wp_of e168 c168_102 (rw_dup (pc' := 103) rfl rfl ?_)
                  have k916 : H910 r0 6 = H848 r0 6 := (wq_u_t e911 grb g0 rfl 6)
                  refine wp_of e168 c168_103 (xg_I (pc' := 106) lf_9_330 w912 g0 sh_42 (by decide) (by decide) ty_42_6 rfl rfl (fun b917 b918 => ?_))
                  refine wp_of e168 c168_106 (rw_iconst (pc' := 107) rfl ?_)
                  refine wp_of e168 c168_107 (rw_iadd (pc' := 108) rfl ?_)
                  refine wp_of e168 c168_108 (xp_I (pc' := 111) lf_9_330 w912 g0 sh_42 (by decide) (by decide) ty_42_6 rfl rfl (by omega) (by omega) ⟨by omega, by omega⟩ rfl (fun H919 e920 w921 => ?_))
                  have f922 := f913.put' e920 g0 rfl
                  have f923 := f914.put' e920 g0 rfl
                  have k924 : H919 r0 6 = (H910 r0 6) + 1 := wq_u_s e920
                  refine wp_of e168 c168_111 (rw_iinc (pc' := 114) (z := v847) (L' := [(6, vI (v847 + 1)), (7, vI a4), (0, .ref r0), (1, vI a1), (2, vI a2), (3, vI a3), (4, vI a4), (5, vI a5)]) rfl rfl rfl rfl ?_)
                  refine wp_of e168 c168_114 (rw_goto (p1 := 23) (by decide) ?_)
                  have h925 : TM T H919 rb (xfk B t a1 a2 a3 a4 a5 (ii849 + 1)) := (TM_fr w912 grb ((wfr.rf (l := [(42, 6)])).put' e920 g0 rfl) rfl h915)
                  exact wp_lc (ks := [6, 7, 0, 1, 2, 3, 4, 5]) (wl_c rfl (wl_c rfl (wl_c rfl (wl_c rfl (wl_c rfl (wl_c rfl (wl_c rfl wl_n))))))) rfl (by decide) (ih846 _ (by omega) (v847 + 1) H919 ((ii849 + 1)) w921 f923 ⟨by omega, by omega⟩ h925 (by omega) (by omega) (by omega) rfl)
              · refine wp_of e168 c168_58 (rw_iload_n (pc' := 59) (z := a3) rfl rfl ?_)
                refine wp_of e168 c168_59 (rw_goto (p1 := 76) (by decide) ?_)
                refine wp_of e168 c168_76 (rw_istore (pc' := 78) (z := a3) (L' := [(7, vI a3), (6, vI v847), (0, .ref r0), (1, vI a1), (2, vI a2), (3, vI a3), (4, vI a4), (5, vI a5)]) rfl rfl rfl ?_)
                have _w := @xw5_e ii849 a1 a2 a3 a4 a5
                refine wp_of e168 c168_78 (rw_aload_n (pc' := 79) (v := .ref r0) rfl rfl rfl ?_)
                have k926 : H848 r0 5 = H r0 5 := ((f851 r0 5 _ g0 rfl).trans (wq_u_j e483 rfl))
                have q927 : H848 r0 5 = (rb : Int) := k926.trans qrb
                refine wp_of e168 c168_79 (xg_K (pc' := 82) lf_9_13 w850 g0 sh_42 (by decide) (by decide) rfl q927 rfl ?_)
                refine wp_of e168 c168_82 (rw_aload_n (pc' := 83) (v := .ref r0) rfl rfl rfl ?_)
                refine wp_of e168 c168_83 (xg_I (pc' := 86) lf_9_330 w850 g0 sh_42 (by decide) (by decide) ty_42_6 rfl rfl (fun b928 b929 => ?_))
                refine wp_of e168 c168_86 (rw_iload (pc' := 88) (z := a3) rfl rfl ?_)
                refine wp_of e168 c168_88 (rw_bipush (pc' := 90) (z := 24) rfl (by decide) ?_)
                refine wp_of e168 c168_90 (rw_bipush (pc' := 92) (z := 8) rfl (by decide) ?_)
                refine wp_of e168 c168_92 (rw_iload (pc' := 94) (z := v847) rfl rfl ?_)
                refine wp_of e168 c168_94 (rw_iconst (pc' := 95) rfl ?_)
                refine wp_of e168 c168_95 (rw_irem (pc' := 96) rfl ⟨by omega, by omega⟩ (by omega) ?_)
                obtain ⟨v930, e931⟩ : ∃ x : Int, x = wq_rem v847 4 := ⟨_, rfl⟩
                rw [← e931]
                have b932 : v930 = v847 % 4 := by
                  rw [e931]
                  exact wq_rem_e ⟨by omega, by omega⟩ ⟨by omega, by omega⟩
                refine wp_of e168 c168_96 (rw_imul (pc' := 97) rfl ?_)
                refine wp_of e168 c168_97 (rw_isub (pc' := 98) rfl ?_)
                refine wp_of e168 c168_98 (rw_ishr (pc' := 99) rfl ?_)
                obtain ⟨v933, e934⟩ : ∃ x : Int, x = wq_shr a3 (24 - (8 * v930)) := ⟨_, rfl⟩
                rw [← e934]
                have b935 : -2147483648 ≤ v933 ∧ v933 ≤ 2147483647 := by
                  rw [e934]
                  exact wI_shr _ _
                refine wp_of e168 c168_99 (rw_i2b (pc' := 100) rfl ?_)
                obtain ⟨v936, e937⟩ : ∃ x : Int, x = wq_i2b v933 := ⟨_, rfl⟩
                rw [← e937]
                have b938 : -128 ≤ v936 ∧ v936 ≤ 127 := by
                  rw [e937]
                  exact wq_i2b_b _
                have o939 : v936 = wq_i2b (wq_shr a3 (24 - (8 * v930))) := by
                  subst_vars
                  rfl
                refine wp_of e168 c168_100 (xs_B (pc' := 101) w850 grb (by decide) sh_43 (by decide) (ty_43 _) (by omega) (by omega) ⟨by omega, by omega⟩ (by omega) (by omega) rfl (fun H940 e941 w942 => ?_))
                have f943 := f858.put' e941 grb rfl
                have f944 := f851.put' e941 grb rfl
                have h945 : TM T H940 rb (xfk B t a1 a2 a3 a4 a5 (ii849 + 1)) := TM_fk h854 e941 (by omega) o939 (by omega) (by omega)
                refine wp_of e168 c168_101 (rw_aload_n (pc' := 102) (v := .ref r0) rfl rfl rfl ?_)
                refine wp_of e168 c168_102 (rw_dup (pc' := 103) rfl rfl ?_)
                have k946 : H940 r0 6 = H848 r0 6 := (wq_u_t e941 grb g0 rfl 6)
                refine wp_of e168 c168_103 (xg_I (pc' := 106) lf_9_330 w942 g0 sh_42 (by decide) (by decide) ty_42_6 rfl rfl (fun b947 b948 => ?_))
                refine wp_of e168 c168_106 (rw_iconst (pc' := 107) rfl ?_)
                refine wp_of e168 c168_107 (rw_iadd (pc' := 108) rfl ?_)
                refine wp_of e168 c168_108 (xp_I (pc' := 111) lf_9_330 w942 g0 sh_42 (by decide) (by decide) ty_42_6 rfl rfl (by omega) (by omega) ⟨by omega, by omega⟩ rfl (fun H949 e950 w951 => ?_))
                have f952 := f943.put' e950 g0 rfl
                have f953 := f944.put' e950 g0 rfl
                have k954 : H949 r0 6 = (H940 r0 6) + 1 := wq_u_s e950
                refine wp_of e168 c168_111 (rw_iinc (pc' := 114) (z := v847) (L' := [(6, vI (v847 + 1)), (7, vI a3), (0, .ref r0), (1, vI a1), (2, vI a2), (3, vI a3), (4, vI a4), (5, vI a5)]) rfl rfl rfl rfl ?_)
                refine wp_of e168 c168_114 (rw_goto (p1 := 23) (by decide) ?_)
                have h955 : TM T H949 rb (xfk B t a1 a2 a3 a4 a5 (ii849 + 1)) := (TM_fr w942 grb ((wfr.rf (l := [(42, 6)])).put' e950 g0 rfl) rfl h945)
                exact wp_lc (ks := [6, 7, 0, 1, 2, 3, 4, 5]) (wl_c rfl (wl_c rfl (wl_c rfl (wl_c rfl (wl_c rfl (wl_c rfl (wl_c rfl wl_n))))))) rfl (by decide) (ih846 _ (by omega) (v847 + 1) H949 ((ii849 + 1)) w951 f953 ⟨by omega, by omega⟩ h955 (by omega) (by omega) (by omega) rfl)
            · refine wp_of e168 c168_47 (rw_iload_n (pc' := 48) (z := a2) rfl rfl ?_)
              refine wp_of e168 c168_48 (rw_goto (p1 := 76) (by decide) ?_)
              refine wp_of e168 c168_76 (rw_istore (pc' := 78) (z := a2) (L' := [(7, vI a2), (6, vI v847), (0, .ref r0), (1, vI a1), (2, vI a2), (3, vI a3), (4, vI a4), (5, vI a5)]) rfl rfl rfl ?_)
              have _w := @xw5_e ii849 a1 a2 a3 a4 a5
              refine wp_of e168 c168_78 (rw_aload_n (pc' := 79) (v := .ref r0) rfl rfl rfl ?_)
              have k956 : H848 r0 5 = H r0 5 := ((f851 r0 5 _ g0 rfl).trans (wq_u_j e483 rfl))
              have q957 : H848 r0 5 = (rb : Int) := k956.trans qrb
              refine wp_of e168 c168_79 (xg_K (pc' := 82) lf_9_13 w850 g0 sh_42 (by decide) (by decide) rfl q957 rfl ?_)
              refine wp_of e168 c168_82 (rw_aload_n (pc' := 83) (v := .ref r0) rfl rfl rfl ?_)
              refine wp_of e168 c168_83 (xg_I (pc' := 86) lf_9_330 w850 g0 sh_42 (by decide) (by decide) ty_42_6 rfl rfl (fun b958 b959 => ?_))
              refine wp_of e168 c168_86 (rw_iload (pc' := 88) (z := a2) rfl rfl ?_)
              refine wp_of e168 c168_88 (rw_bipush (pc' := 90) (z := 24) rfl (by decide) ?_)
              refine wp_of e168 c168_90 (rw_bipush (pc' := 92) (z := 8) rfl (by decide) ?_)
              refine wp_of e168 c168_92 (rw_iload (pc' := 94) (z := v847) rfl rfl ?_)
              refine wp_of e168 c168_94 (rw_iconst (pc' := 95) rfl ?_)
              refine wp_of e168 c168_95 (rw_irem (pc' := 96) rfl ⟨by omega, by omega⟩ (by omega) ?_)
              obtain ⟨v960, e961⟩ : ∃ x : Int, x = wq_rem v847 4 := ⟨_, rfl⟩
              rw [← e961]
              have b962 : v960 = v847 % 4 := by
                rw [e961]
                exact wq_rem_e ⟨by omega, by omega⟩ ⟨by omega, by omega⟩
              refine wp_of e168 c168_96 (rw_imul (pc' := 97) rfl ?_)
              refine wp_of e168 c168_97 (rw_isub (pc' := 98) rfl ?_)
              refine wp_of e168 c168_98 (rw_ishr (pc' := 99) rfl ?_)
              obtain ⟨v963, e964⟩ : ∃ x : Int, x = wq_shr a2 (24 - (8 * v960)) := ⟨_, rfl⟩
              rw [← e964]
              have b965 : -2147483648 ≤ v963 ∧ v963 ≤ 2147483647 := by
                rw [e964]
                exact wI_shr _ _
              refine wp_of e168 c168_99 (rw_i2b (pc' := 100) rfl ?_)
              obtain ⟨v966, e967⟩ : ∃ x : Int, x = wq_i2b v963 := ⟨_, rfl⟩
              rw [← e967]
              have b968 : -128 ≤ v966 ∧ v966 ≤ 127 := by
                rw [e967]
                exact wq_i2b_b _
              have o969 : v966 = wq_i2b (wq_shr a2 (24 - (8 * v960))) := by
                subst_vars
                rfl
              refine wp_of e168 c168_100 (xs_B (pc' := 101) w850 grb (by decide) sh_43 (by decide) (ty_43 _) (by omega) (by omega) ⟨by omega, by omega⟩ (by omega) (by omega) rfl (fun H970 e971 w972 => ?_))
              have f973 := f858.put' e971 grb rfl
              have f974 := f851.put' e971 grb rfl
              have h975 : TM T H970 rb (xfk B t a1 a2 a3 a4 a5 (ii849 + 1)) := TM_fk h854 e971 (by omega) o969 (by omega) (by omega)
              refine wp_of e168 c168_101 (rw_aload_n (pc' := 102) (v := .ref r0) rfl rfl rfl ?_)
              refine wp_of e168 c168_102 (rw_dup (pc' := 103) rfl rfl ?_)
              have k976 : H970 r0 6 = H848 r0 6 := (wq_u_t e971 grb g0 rfl 6)
              refine wp_of e168 c168_103 (xg_I (pc' := 106) lf_9_330 w972 g0 sh_42 (by decide) (by decide) ty_42_6 rfl rfl (fun b977 b978 => ?_))
              refine wp_of e168 c168_106 (rw_iconst (pc' := 107) rfl ?_)
              refine wp_of e168 c168_107 (rw_iadd (pc' := 108) rfl ?_)
              refine wp_of e168 c168_108 (xp_I (pc' := 111) lf_9_330 w972 g0 sh_42 (by decide) (by decide) ty_42_6 rfl rfl (by omega) (by omega) ⟨by omega, by omega⟩ rfl (fun H979 e980 w981 => ?_))
              have f982 := f973.put' e980 g0 rfl
              have f983 := f974.put' e980 g0 rfl
              have k984 : H979 r0 6 = (H970 r0 6) + 1 := wq_u_s e980
              refine wp_of e168 c168_111 (rw_iinc (pc' := 114) (z := v847) (L' := [(6, vI (v847 + 1)), (7, vI a2), (0, .ref r0), (1, vI a1), (2, vI a2), (3, vI a3), (4, vI a4), (5, vI a5)]) rfl rfl rfl rfl ?_)
              refine wp_of e168 c168_114 (rw_goto (p1 := 23) (by decide) ?_)
              have h985 : TM T H979 rb (xfk B t a1 a2 a3 a4 a5 (ii849 + 1)) := (TM_fr w972 grb ((wfr.rf (l := [(42, 6)])).put' e980 g0 rfl) rfl h975)
              exact wp_lc (ks := [6, 7, 0, 1, 2, 3, 4, 5]) (wl_c rfl (wl_c rfl (wl_c rfl (wl_c rfl (wl_c rfl (wl_c rfl (wl_c rfl wl_n))))))) rfl (by decide) (ih846 _ (by omega) (v847 + 1) H979 ((ii849 + 1)) w981 f983 ⟨by omega, by omega⟩ h985 (by omega) (by omega) (by omega) rfl)
          · refine wp_of e168 c168_36 (rw_iload_n (pc' := 37) (z := a1) rfl rfl ?_)
            refine wp_of e168 c168_37 (rw_goto (p1 := 76) (by decide) ?_)
            refine wp_of e168 c168_76 (rw_istore (pc' := 78) (z := a1) (L' := [(7, vI a1), (6, vI v847), (0, .ref r0), (1, vI a1), (2, vI a2), (3, vI a3), (4, vI a4), (5, vI a5)]) rfl rfl rfl ?_)
            have _w := @xw5_e ii849 a1 a2 a3 a4 a5
            refine wp_of e168 c168_78 (rw_aload_n (pc' := 79) (v := .ref r0) rfl rfl rfl ?_)
            have k986 : H848 r0 5 = H r0 5 := ((f851 r0 5 _ g0 rfl).trans (wq_u_j e483 rfl))
            have q987 : H848 r0 5 = (rb : Int) := k986.trans qrb
            refine wp_of e168 c168_79 (xg_K (pc' := 82) lf_9_13 w850 g0 sh_42 (by decide) (by decide) rfl q987 rfl ?_)
            refine wp_of e168 c168_82 (rw_aload_n (pc' := 83) (v := .ref r0) rfl rfl rfl ?_)
            refine wp_of e168 c168_83 (xg_I (pc' := 86) lf_9_330 w850 g0 sh_42 (by decide) (by decide) ty_42_6 rfl rfl (fun b988 b989 => ?_))
            refine wp_of e168 c168_86 (rw_iload (pc' := 88) (z := a1) rfl rfl ?_)
            refine wp_of e168 c168_88 (rw_bipush (pc' := 90) (z := 24) rfl (by decide) ?_)
            refine wp_of e168 c168_90 (rw_bipush (pc' := 92) (z := 8) rfl (by decide) ?_)
            refine wp_of e168 c168_92 (rw_iload (pc' := 94) (z := v847) rfl rfl ?_)
            refine wp_of e168 c168_94 (rw_iconst (pc' := 95) rfl ?_)
            refine wp_of e168 c168_95 (rw_irem (pc' := 96) rfl ⟨by omega, by omega⟩ (by omega) ?_)
            obtain ⟨v990, e991⟩ : ∃ x : Int, x = wq_rem v847 4 := ⟨_, rfl⟩
            rw [← e991]
            have b992 : v990 = v847 % 4 := by
              rw [e991]
              exact wq_rem_e ⟨by omega, by omega⟩ ⟨by omega, by omega⟩
            refine wp_of e168 c168_96 (rw_imul (pc' := 97) rfl ?_)
            refine wp_of e168 c168_97 (rw_isub (pc' := 98) rfl ?_)
            refine wp_of e168 c168_98 (rw_ishr (pc' := 99) rfl ?_)
            obtain ⟨v993, e994⟩ : ∃ x : Int, x = wq_shr a1 (24 - (8 * v990)) := ⟨_, rfl⟩
            rw [← e994]
            have b995 : -2147483648 ≤ v993 ∧ v993 ≤ 2147483647 := by
              rw [e994]
              exact wI_shr _ _
            refine wp_of e168 c168_99 (rw_i2b (pc' := 100) rfl ?_)
            obtain ⟨v996, e997⟩ : ∃ x : Int, x = wq_i2b v993 := ⟨_, rfl⟩
            rw [← e997]
            have b998 : -128 ≤ v996 ∧ v996 ≤ 127 := by
              rw [e997]
              exact wq_i2b_b _
            have o999 : v996 = wq_i2b (wq_shr a1 (24 - (8 * v990))) := by
              subst_vars
              rfl
            refine wp_of e168 c168_100 (xs_B (pc' := 101) w850 grb (by decide) sh_43 (by decide) (ty_43 _) (by omega) (by omega) ⟨by omega, by omega⟩ (by omega) (by omega) rfl (fun H1000 e1001 w1002 => ?_))
            have f1003 := f858.put' e1001 grb rfl
            have f1004 := f851.put' e1001 grb rfl
            have h1005 : TM T H1000 rb (xfk B t a1 a2 a3 a4 a5 (ii849 + 1)) := TM_fk h854 e1001 (by omega) o999 (by omega) (by omega)
            refine wp_of e168 c168_101 (rw_aload_n (pc' := 102) (v := .ref r0) rfl rfl rfl ?_)
            refine wp_of e168 c168_102 (rw_dup (pc' := 103) rfl rfl ?_)
            have k1006 : H1000 r0 6 = H848 r0 6 := (wq_u_t e1001 grb g0 rfl 6)
            refine wp_of e168 c168_103 (xg_I (pc' := 106) lf_9_330 w1002 g0 sh_42 (by decide) (by decide) ty_42_6 rfl rfl (fun b1007 b1008 => ?_))
            refine wp_of e168 c168_106 (rw_iconst (pc' := 107) rfl ?_)
            refine wp_of e168 c168_107 (rw_iadd (pc' := 108) rfl ?_)
            refine wp_of e168 c168_108 (xp_I (pc' := 111) lf_9_330 w1002 g0 sh_42 (by decide) (by decide) ty_42_6 rfl rfl (by omega) (by omega) ⟨by omega, by omega⟩ rfl (fun H1009 e1010 w1011 => ?_))
            have f1012 := f1003.put' e1010 g0 rfl
            have f1013 := f1004.put' e1010 g0 rfl
            have k1014 : H1009 r0 6 = (H1000 r0 6) + 1 := wq_u_s e1010
            refine wp_of e168 c168_111 (rw_iinc (pc' := 114) (z := v847) (L' := [(6, vI (v847 + 1)), (7, vI a1), (0, .ref r0), (1, vI a1), (2, vI a2), (3, vI a3), (4, vI a4), (5, vI a5)]) rfl rfl rfl rfl ?_)
            refine wp_of e168 c168_114 (rw_goto (p1 := 23) (by decide) ?_)
            have h1015 : TM T H1009 rb (xfk B t a1 a2 a3 a4 a5 (ii849 + 1)) := (TM_fr w1002 grb ((wfr.rf (l := [(42, 6)])).put' e1010 g0 rfl) rfl h1005)
            exact wp_lc (ks := [6, 7, 0, 1, 2, 3, 4, 5]) (wl_c rfl (wl_c rfl (wl_c rfl (wl_c rfl (wl_c rfl (wl_c rfl (wl_c rfl wl_n))))))) rfl (by decide) (ih846 _ (by omega) (v847 + 1) H1009 ((ii849 + 1)) w1011 f1013 ⟨by omega, by omega⟩ h1015 (by omega) (by omega) (by omega) rfl)
    have h1016 : TM T H482 rb B := (TM_fr hW grb ((wfr.rf (l := [(42, 0)])).put' e483 g0 rfl) rfl hTM_rb)
    have h1017 : TM T H482 rb (xfk B t a1 a2 a3 a4 a5 0) := h1016
    exact wp_lc (ks := [6, 0, 1, 2, 3, 4, 5]) (wl_c rfl (wl_c rfl (wl_c rfl (wl_c rfl (wl_c rfl (wl_c rfl (wl_c rfl wl_n))))))) rfl (by decide) (lp844 _ 0 H482 0 w484 wfr.rf ⟨by omega, by omega⟩ h1017 (by omega) (by omega) (by omega) rfl)
  · refine wp_of e168 c168_18 (rw_iconst (pc' := 19) rfl ?_)
    have h1018 : TM T H482 rb B := (TM_fr hW grb ((wfr.rf (l := [(42, 0)])).put' e483 g0 rfl) rfl hTM_rb)
    exact wp_ireturn e168 c168_19 rfl ⟨rfl, w484, f485, -1, rfl, ⟨by omega, by omega⟩, (Or.inl ⟨by omega, by omega, by omega, h1018⟩)⟩
/-! StrikeAwakeModel.refused(I)I  -/
abbrev uq_170 (r0 : Nat) (a1 : Int) (T : wq_T) (H : wq_H) : Option Value → wq_T → wq_H → Prop := fun r T' H' => T = T' ∧ WT T H' ∧ wfr [(42, 1), (42, 2)] T H H' ∧ ∃ z : Int, some (vI z) = r ∧ ((-2147483648) ≤ z ∧ z ≤ 2147483647) ∧ (((z = -1) ∧ (H' r0 1 = a1) ∧ (H' r0 2 = -1)))
set_option maxHeartbeats 4000000 in
theorem u_170 {kt : Nat → Option mc_E} {T : wq_T} {H : wq_H} {r0 : Nat} {a1 : Int} (hW : WT T H) (g0 : T.2.2.2 r0 = some 42) (i1 : (-2147483648) ≤ a1 ∧ a1 ≤ 2147483647) : wpc kt 1 170 [.ref r0, vI a1] T H (uq_170 r0 a1 T H) := by
  refine wp_enter e170 (Nat.le_of_ble_eq_true rfl) rfl ?_
  have f0 : wfr [(42, 1), (42, 2)] T H H := wfr.rf
  show wp _ _ 170 0 [(0, .ref r0), (1, vI a1)] [] _ H _
  refine wp_of e170 c170_0 (rw_aload_n (pc' := 1) (v := .ref r0) rfl rfl rfl ?_)
  refine wp_of e170 c170_1 (rw_iload_n (pc' := 2) (z := a1) rfl rfl ?_)
  refine wp_of e170 c170_2 (xp_I (pc' := 5) lf_9_51 hW g0 sh_42 (by decide) (by decide) ty_42_1 rfl rfl (by omega) (by omega) ⟨by omega, by omega⟩ rfl (fun H11 e12 w13 => ?_))
  have f14 := f0.put' e12 g0 rfl
  have k15 : H11 r0 1 = a1 := wq_u_s e12
  refine wp_of e170 c170_5 (rw_aload_n (pc' := 6) (v := .ref r0) rfl rfl rfl ?_)
  refine wp_of e170 c170_6 (rw_iconst (pc' := 7) rfl ?_)
  refine wp_of e170 c170_7 (xp_I (pc' := 10) lf_9_9 w13 g0 sh_42 (by decide) (by decide) ty_42_2 rfl rfl (by omega) (by omega) ⟨by omega, by omega⟩ rfl (fun H16 e17 w18 => ?_))
  have f19 := f14.put' e17 g0 rfl
  have k20 : H16 r0 2 = -1 := wq_u_s e17
  refine wp_of e170 c170_10 (rw_iconst (pc' := 11) rfl ?_)
  have k21 : H16 r0 1 = H11 r0 1 := (wq_u_j e17 rfl)
  exact wp_ireturn e170 c170_11 rfl ⟨rfl, w18, f19, -1, rfl, ⟨by omega, by omega⟩, ⟨by omega, by omega, by omega⟩⟩
/-! StrikeAwakeModel.done(I)I  -/
abbrev uq_209 (r0 : Nat) (a1 : Int) (T : wq_T) (H : wq_H) : Option Value → wq_T → wq_H → Prop := fun r T' H' => T = T' ∧ WT T H' ∧ wfr [(42, 1), (42, 2)] T H H' ∧ ∃ z : Int, some (vI z) = r ∧ ((-2147483648) ≤ z ∧ z ≤ 2147483647) ∧ (((z = a1) ∧ (H' r0 1 = 0) ∧ (H' r0 2 = -1)))
set_option maxHeartbeats 4000000 in
theorem u_209 {kt : Nat → Option mc_E} {T : wq_T} {H : wq_H} {r0 : Nat} {a1 : Int} (hW : WT T H) (g0 : T.2.2.2 r0 = some 42) (i1 : (-2147483648) ≤ a1 ∧ a1 ≤ 2147483647) : wpc kt 1 209 [.ref r0, vI a1] T H (uq_209 r0 a1 T H) := by
  refine wp_enter e209 (Nat.le_of_ble_eq_true rfl) rfl ?_
  have f0 : wfr [(42, 1), (42, 2)] T H H := wfr.rf
  show wp _ _ 209 0 [(0, .ref r0), (1, vI a1)] [] _ H _
  refine wp_of e209 c209_0 (rw_aload_n (pc' := 1) (v := .ref r0) rfl rfl rfl ?_)
  refine wp_of e209 c209_1 (rw_iconst (pc' := 2) rfl ?_)
  refine wp_of e209 c209_2 (xp_I (pc' := 5) lf_9_51 hW g0 sh_42 (by decide) (by decide) ty_42_1 rfl rfl (by omega) (by omega) ⟨by omega, by omega⟩ rfl (fun H11 e12 w13 => ?_))
  have f14 := f0.put' e12 g0 rfl
  have k15 : H11 r0 1 = 0 := wq_u_s e12
  refine wp_of e209 c209_5 (rw_aload_n (pc' := 6) (v := .ref r0) rfl rfl rfl ?_)
  refine wp_of e209 c209_6 (rw_iconst (pc' := 7) rfl ?_)
  refine wp_of e209 c209_7 (xp_I (pc' := 10) lf_9_9 w13 g0 sh_42 (by decide) (by decide) ty_42_2 rfl rfl (by omega) (by omega) ⟨by omega, by omega⟩ rfl (fun H16 e17 w18 => ?_))
  have f19 := f14.put' e17 g0 rfl
  have k20 : H16 r0 2 = -1 := wq_u_s e17
  refine wp_of e209 c209_10 (rw_iload_n (pc' := 11) (z := a1) rfl rfl ?_)
  have k21 : H16 r0 1 = H11 r0 1 := (wq_u_j e17 rfl)
  exact wp_ireturn e209 c209_11 rfl ⟨rfl, w18, f19, a1, rfl, ⟨by omega, by omega⟩, ⟨by omega, by omega, by omega⟩⟩
