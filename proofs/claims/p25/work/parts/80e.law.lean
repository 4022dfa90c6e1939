/-! THE LAW, GONE ON WITH (own work) -/
set_option maxHeartbeats 4000000 in
theorem wl_c29 {kt : Nat → Option mc_E} {CB SB : Nat} {X : mc_S → Prop} {T : wq_T} {H : wq_H} {Len x m o : Nat} {i : Int} (hX : wlX kt CB SB X) (hb : T.2.1 ≤ CB ∧ T.2.2.1 ≤ SB) (hI : wlJ Len x m o T H) (hL : Len ≤ 3072) (hi : 0 ≤ i ∧ i + 6 ≤ Len) (hb2 : T.2.1 + 20 ≤ CB ∧ T.2.2.1 + 500 ≤ SB)  (next : ∀ T' H', wlJ Len x m o T' H' → T'.2.1 ≤ T.2.1 + 20 → T'.2.2.1 ≤ T.2.2.1 + 500 → WL kt CB SB X 1653 (wlL i x m o) [] T' H') : WL kt CB SB X 1109 (wlL i x m o) [] T H := by
  obtain ⟨⟨hW, g0, gx, gm, go, hK, hr⟩, hXI, hY1, hY2⟩ := hI
  refine wl_of hX hb cL_1109 (rw_aload_n (pc' := 1110) (v := .ref x) rfl rfl rfl ?_)
  refine wl_of hX hb cL_1110 (rw_aload_n (pc' := 1111) (v := .ref 0) rfl rfl rfl ?_)
  refine wl_of hX hb cL_1111 (rw_iload (pc' := 1113) (z := i) rfl rfl ?_)
  refine wl_of hX hb cL_1113 (rw_iconst (pc' := 1114) rfl ?_)
  refine wl_of hX hb cL_1114 (rw_iadd (pc' := 1115) rfl ?_)
  refine wl_of hX hb cL_1115 (xa_I (so := 0) (pc' := 1116) (a := 0) hW g0 (wsh_s _) (by omega) (wty_s _ _) (by omega) (by omega) rfl (fun b4396 b4397 => ?_))
  refine wl_of hX hb cL_1116 (rw_aload_n (pc' := 1117) (v := .ref 0) rfl rfl rfl ?_)
  refine wl_of hX hb cL_1117 (rw_iload (pc' := 1119) (z := i) rfl rfl ?_)
  refine wl_of hX hb cL_1119 (rw_iconst (pc' := 1120) rfl ?_)
  refine wl_of hX hb cL_1120 (rw_iadd (pc' := 1121) rfl ?_)
  refine wl_of hX hb cL_1121 (xa_I (so := 0) (pc' := 1122) (a := 0) hW g0 (wsh_s _) (by omega) (wty_s _ _) (by omega) (by omega) rfl (fun b4398 b4399 => ?_))
  refine wl_of hX hb cL_1122 (rw_if_eq (p1 := 1129) (p2 := 1125) (by decide) rfl ⟨by omega, by omega⟩ (fun c4400 => ?_) (fun c4400 => ?_))
  · refine wl_of hX hb cL_1129 (rw_iconst (pc' := 1130) rfl ?_)
    obtain ⟨B, tc, tm, cu, dr, C8, e8, d8, n8, g8, ce8, e0, gtc, htc, em, gtm, htm, ecu, gcu, edr, gdr, hcu, hdr, hdec, hded, hsp, hC1, hC2, hcu8, hrb8, hcg8, hmn8, hE, hZ, hn8, hXA, hV8, hSG, ece8, gce8, hcen8, hhdr8, hknn8, -⟩ := hXI
    have hN3 := RB_n3 hrb8
    have hE13 : ∀ h : Nat, h < 24 → 0 ≤ e8 13 h ∧ e8 13 h ≤ 100 := fun k hk => by
      obtain ⟨s, h1, h2, h3⟩ := hcu8.1.2.2.1
      exact ⟨(h3 k hk).1, (h3 k hk).2.1⟩
    have hXW := hXA.1
    have hXN := hXA.2
    have hE0 : e8 0 3 = d8 0 3 ∧ e8 0 0 = d8 0 0 := by
      have h := hE 0 (by decide)
      exact ⟨congrFun h 3, congrFun h 0⟩
    have u4401 := CU_k hcu8
    have h4402 : CY T H cu (d8 0 3) g8 (H cu 17) := ⟨hcg8, rfl⟩
    have h4403 : RY T H m (d8 0 3) g8 (H m 32) := ⟨hmn8, rfl⟩
    obtain ⟨t9, ht9⟩ : ∃ t : Int, t = H x 9 := ⟨_, rfl⟩
    obtain ⟨y9, hy9⟩ : ∃ y : Int, y = 0 := ⟨_, rfl⟩
    obtain ⟨r4404, q4405, g4406⟩ := hW.ref gx (t' := 6) (n := 13) (j := 2) (p := 0) (q := 0) rfl (by decide) rfl
    refine wl_of hX hb cL_1130 (xc_V (pc' := 1133) (r := x) (as := [vI (H 0 ((i + 1).toNat)), vI 0]) (st := []) (lm_11_143) rfl rfl (Nat.le_of_ble_eq_true rfl) hW gx sh_1 (by decide) rfl (by decide) (u_119 (e := e8) (d := d8) (n := n8) hW gx ⟨by omega, by omega⟩ ⟨by decide, by decide⟩ ecu gcu q4405 g4406 ece8 gce8 (by assumption) (by assumption) (by omega) (by omega) (by omega) (by omega) hcu8 hcen8 hhdr8) (fun R4407 T4408 H4409 p4410 => ?_))
    obtain ⟨e4411, w4413, f4414, z4415, e4412, b4416, p4417⟩ := p4410
    subst e4411
    subst e4412
    show WL _ _ _ _ 1133 [(4, vI i), (3, .ref o), (2, .ref m), (1, .ref x), (0, .ref 0)] [vI z4415] _ H4409
    refine wl_of hX hb cL_1133 (rw_pop (pc' := 1134) rfl rfl ?_)
    refine wl_of hX hb cL_1134 (rw_aload_n (pc' := 1135) (v := .ref m) rfl rfl rfl ?_)
    refine wl_of hX hb cL_1135 (rw_aload_n (pc' := 1136) (v := .ref 0) rfl rfl rfl ?_)
    refine wl_of hX hb cL_1136 (rw_iload (pc' := 1138) (z := i) rfl rfl ?_)
    refine wl_of hX hb cL_1138 (rw_iconst (pc' := 1139) rfl ?_)
    refine wl_of hX hb cL_1139 (rw_iadd (pc' := 1140) rfl ?_)
    have k4421 : H4409 0 ((i + 1).toNat) = H 0 ((i + 1).toNat) := (f4414 0 ((i + 1).toNat) _ g0 (wmem_s rfl))
    refine wl_of hX hb cL_1140 (xa_I (so := 0) (pc' := 1141) (a := 0) w4413 g0 (wsh_s _) (by omega) (wty_s _ _) (by omega) (by omega) rfl (fun b4419 b4420 => ?_))
    refine wl_of hX hb cL_1141 (rw_aload_n (pc' := 1142) (v := .ref 0) rfl rfl rfl ?_)
    refine wl_of hX hb cL_1142 (rw_iload (pc' := 1144) (z := i) rfl rfl ?_)
    refine wl_of hX hb cL_1144 (rw_iconst (pc' := 1145) rfl ?_)
    refine wl_of hX hb cL_1145 (rw_iadd (pc' := 1146) rfl ?_)
    have k4424 : H4409 0 ((i + 2).toNat) = H 0 ((i + 2).toNat) := (f4414 0 ((i + 2).toNat) _ g0 (wmem_s rfl))
    refine wl_of hX hb cL_1146 (xa_I (so := 0) (pc' := 1147) (a := 0) w4413 g0 (wsh_s _) (by omega) (wty_s _ _) (by omega) (by omega) rfl (fun b4422 b4423 => ?_))
    refine wl_of hX hb cL_1147 (rw_if_eq (p1 := 1154) (p2 := 1150) (by decide) rfl ⟨by omega, by omega⟩ (fun c4425 => ?_) (fun c4425 => ?_))
    · refine wl_of hX hb cL_1154 (rw_iconst (pc' := 1155) rfl ?_)
      have k4426 : wKI H4409 m = wKI H m := (wKI_fr hW gm f4414 rfl)
      have k4427 : H4409 x 9 = H x 9 := (f4414 x 9 _ gx rfl)
      have k4428 : H4409 m 6 = H m 6 := (f4414 m 6 _ gm rfl)
      have k4429 : H4409 x 11 = H x 11 := (f4414 x 11 _ gx rfl)
      have k4430 : H4409 m 13 = H m 13 := (f4414 m 13 _ gm rfl)
      have k4431 : H4409 x 8 = H x 8 := (f4414 x 8 _ gx rfl)
      have k4432 : H4409 m 3 = H m 3 := (f4414 m 3 _ gm rfl)
      rw [show H4409 0 ((i + 1).toNat) = H 0 ((i + 1).toNat) by omega]
      have h4433 : RB T H4409 m e8 d8 := (RB_fr hW gm f4414 rfl hrb8)
      have h4434 : KNN T H4409 m e8 d8 := (KNN_fr hW gm f4414 rfl hknn8)
      refine wl_of hX hb cL_1155 (xc_V (pc' := 1158) (r := m) (as := [vI (H 0 ((i + 1).toNat)), vI 0]) (st := []) (lm_11_146) rfl rfl (Nat.le_of_ble_eq_true rfl) w4413 gm sh_42 (by decide) rfl (by decide) (u_265 (e := e8) (d := d8) w4413 gm ⟨by omega, by omega⟩ ⟨by decide, by decide⟩ (by omega) (by assumption) (by assumption) (by assumption) (by assumption) h4433 h4434) (fun R4435 T4436 H4437 p4438 => ?_))
      obtain ⟨e4439, w4441, f4442, z4443, e4440, b4444, p4445⟩ := p4438
      subst e4439
      subst e4440
      obtain ⟨a4446, a4447⟩ := p4445
      show WL _ _ _ _ 1158 [(4, vI i), (3, .ref o), (2, .ref m), (1, .ref x), (0, .ref 0)] [vI z4443] _ H4437
      refine wl_of hX hb cL_1158 (rw_pop (pc' := 1159) rfl rfl ?_)
      refine wl_of hX hb cL_1159 (rw_goto (p1 := 1653) (by decide) ?_)
      have k4448 : H4437 x 9 = H4409 x 9 := (f4442 x 9 _ gx rfl)
      have k4449 : H4437 m 6 = H4409 m 6 := (f4442 m 6 _ gm rfl)
      have k4450 : H4437 x 11 = H4409 x 11 := (f4442 x 11 _ gx rfl)
      have k4451 : H4437 m 13 = H4409 m 13 := (f4442 m 13 _ gm rfl)
      have k4452 : H4437 x 8 = H4409 x 8 := (f4442 x 8 _ gx rfl)
      have k4453 : H4437 m 3 = H4409 m 3 := (f4442 m 3 _ gm rfl)
      have k4454 : H4437 x 0 = H x 0 := ((f4442 x 0 _ gx rfl).trans (f4414 x 0 _ gx rfl))
      have q4455 : H4437 x 0 = (tc : Int) := k4454.trans e0
      have k4456 : H4437 m 5 = H m 5 := ((f4442 m 5 _ gm rfl).trans (f4414 m 5 _ gm rfl))
      have q4457 : H4437 m 5 = (tm : Int) := k4456.trans em
      have k4458 : H4437 x 6 = H x 6 := ((f4442 x 6 _ gx rfl).trans (f4414 x 6 _ gx rfl))
      have q4459 : H4437 x 6 = (cu : Int) := k4458.trans ecu
      have k4460 : H4437 x 7 = H x 7 := ((f4442 x 7 _ gx rfl).trans (f4414 x 7 _ gx rfl))
      have q4461 : H4437 x 7 = (dr : Int) := k4460.trans edr
      have h4462 : CEN T H4437 ce8 e8 d8 := (CEN_fr w4413 gce8 f4442 rfl p4417)
      have h4463 : TP T H4437 tc B := (TP_fr w4413 gtc f4442 rfl (TP_fr hW gtc f4414 rfl htc))
      have h4464 : TM T H4437 tm B := (TM_fr w4413 gtm f4442 rfl (TM_fr hW gtm f4414 rfl htm))
      have h4465 : DD T H4437 cu  := (DD_fr w4413 gcu f4442 rfl (DD_fr hW gcu f4414 rfl hcu))
      have h4466 : DD T H4437 dr  := (DD_fr w4413 gdr f4442 rfl (DD_fr hW gdr f4414 rfl hdr))
      have h4467 : DE T H4437 cu  := (DE_fr w4413 gcu f4442 rfl (DE_fr hW gcu f4414 rfl hdec))
      have h4468 : DE T H4437 dr  := (DE_fr w4413 gdr f4442 rfl (DE_fr hW gdr f4414 rfl hded))
      have h4469 : SP T H4437 x C8 := (SP_fr w4413 gx f4442 rfl (SP_fr hW gx f4414 rfl hsp))
      have h4470 : CU T H4437 cu e8 d8 n8 := (CU_fr w4413 gcu f4442 rfl (CU_fr hW gcu f4414 rfl hcu8))
      have h4471 : CY T H4437 cu (d8 0 3) g8 (H cu 17) := (CY_fr w4413 gcu f4442 rfl (CY_fr hW gcu f4414 rfl h4402))
      have k4472 : H4437 x 3 = H x 3 := ((f4442 x 3 _ gx rfl).trans (f4414 x 3 _ gx rfl))
      have q4473 : H4437 x 3 = (ce8 : Int) := k4472.trans ece8
      have h4474 : HDR T H4437 ce8  := (HDR_fr w4413 gce8 f4442 rfl (HDR_fr hW gce8 f4414 rfl hhdr8))
      have h4475 : RY T H4437 m (d8 0 3) g8 (H m 32) := (RY_fr w4413 gm f4442 rfl (RY_fr hW gm f4414 rfl h4403))
      have h4476 : RB T H4437 m e8 d8 := (RB_fr w4413 gm f4442 rfl h4433)
      exact WL.loc hX (by simp) (next T H4437 ⟨⟨w4441, g0, gx, gm, go, by omega, by omega⟩, ⟨_, tc, tm, cu, dr, _, _, _, _, _, ce8, q4455, gtc, h4463, q4457, gtm, h4464, q4459, gcu, q4461, gdr, h4465, h4466, h4467, h4468, h4469, hC1, hC2, h4470, h4476, (h4471).1, (h4475).1, hE, hZ, (by omega), (by assumption), (by omega), (by first | assumption | exact SG_0), q4473, gce8, h4462, h4474, a4447, gm⟩, by omega, by omega⟩ (by omega) (by omega))
    · exfalso
      omega
  · refine wl_of hX hb cL_1125 (rw_iconst (pc' := 1126) rfl ?_)
    refine wl_of hX hb cL_1126 (rw_goto (p1 := 1130) (by decide) ?_)
    obtain ⟨B, tc, tm, cu, dr, C8, e8, d8, n8, g8, ce8, e0, gtc, htc, em, gtm, htm, ecu, gcu, edr, gdr, hcu, hdr, hdec, hded, hsp, hC1, hC2, hcu8, hrb8, hcg8, hmn8, hE, hZ, hn8, hXA, hV8, hSG, ece8, gce8, hcen8, hhdr8, hknn8, -⟩ := hXI
    have hN3 := RB_n3 hrb8
    have hE13 : ∀ h : Nat, h < 24 → 0 ≤ e8 13 h ∧ e8 13 h ≤ 100 := fun k hk => by
      obtain ⟨s, h1, h2, h3⟩ := hcu8.1.2.2.1
      exact ⟨(h3 k hk).1, (h3 k hk).2.1⟩
    have hXW := hXA.1
    have hXN := hXA.2
    have hE0 : e8 0 3 = d8 0 3 ∧ e8 0 0 = d8 0 0 := by
      have h := hE 0 (by decide)
      exact ⟨congrFun h 3, congrFun h 0⟩
    have u4477 := CU_k hcu8
    have h4478 : CY T H cu (d8 0 3) g8 (H cu 17) := ⟨hcg8, rfl⟩
    have h4479 : RY T H m (d8 0 3) g8 (H m 32) := ⟨hmn8, rfl⟩
    obtain ⟨t9, ht9⟩ : ∃ t : Int, t = H x 9 := ⟨_, rfl⟩
    obtain ⟨y9, hy9⟩ : ∃ y : Int, y = 1 := ⟨_, rfl⟩
    obtain ⟨r4480, q4481, g4482⟩ := hW.ref gx (t' := 6) (n := 13) (j := 2) (p := 0) (q := 0) rfl (by decide) rfl
    refine wl_of hX hb cL_1130 (xc_V (pc' := 1133) (r := x) (as := [vI (H 0 ((i + 1).toNat)), vI 1]) (st := []) (lm_11_143) rfl rfl (Nat.le_of_ble_eq_true rfl) hW gx sh_1 (by decide) rfl (by decide) (u_119 (e := e8) (d := d8) (n := n8) hW gx ⟨by omega, by omega⟩ ⟨by decide, by decide⟩ ecu gcu q4481 g4482 ece8 gce8 (by assumption) (by assumption) (by omega) (by omega) (by omega) (by omega) hcu8 hcen8 hhdr8) (fun R4483 T4484 H4485 p4486 => ?_))
    obtain ⟨e4487, w4489, f4490, z4491, e4488, b4492, p4493⟩ := p4486
    subst e4487
    subst e4488
    show WL _ _ _ _ 1133 [(4, vI i), (3, .ref o), (2, .ref m), (1, .ref x), (0, .ref 0)] [vI z4491] _ H4485
    refine wl_of hX hb cL_1133 (rw_pop (pc' := 1134) rfl rfl ?_)
    refine wl_of hX hb cL_1134 (rw_aload_n (pc' := 1135) (v := .ref m) rfl rfl rfl ?_)
    refine wl_of hX hb cL_1135 (rw_aload_n (pc' := 1136) (v := .ref 0) rfl rfl rfl ?_)
    refine wl_of hX hb cL_1136 (rw_iload (pc' := 1138) (z := i) rfl rfl ?_)
    refine wl_of hX hb cL_1138 (rw_iconst (pc' := 1139) rfl ?_)
    refine wl_of hX hb cL_1139 (rw_iadd (pc' := 1140) rfl ?_)
    have k4497 : H4485 0 ((i + 1).toNat) = H 0 ((i + 1).toNat) := (f4490 0 ((i + 1).toNat) _ g0 (wmem_s rfl))
    refine wl_of hX hb cL_1140 (xa_I (so := 0) (pc' := 1141) (a := 0) w4489 g0 (wsh_s _) (by omega) (wty_s _ _) (by omega) (by omega) rfl (fun b4495 b4496 => ?_))
    refine wl_of hX hb cL_1141 (rw_aload_n (pc' := 1142) (v := .ref 0) rfl rfl rfl ?_)
    refine wl_of hX hb cL_1142 (rw_iload (pc' := 1144) (z := i) rfl rfl ?_)
    refine wl_of hX hb cL_1144 (rw_iconst (pc' := 1145) rfl ?_)
    refine wl_of hX hb cL_1145 (rw_iadd (pc' := 1146) rfl ?_)
    have k4500 : H4485 0 ((i + 2).toNat) = H 0 ((i + 2).toNat) := (f4490 0 ((i + 2).toNat) _ g0 (wmem_s rfl))
    refine wl_of hX hb cL_1146 (xa_I (so := 0) (pc' := 1147) (a := 0) w4489 g0 (wsh_s _) (by omega) (wty_s _ _) (by omega) (by omega) rfl (fun b4498 b4499 => ?_))
    refine wl_of hX hb cL_1147 (rw_if_eq (p1 := 1154) (p2 := 1150) (by decide) rfl ⟨by omega, by omega⟩ (fun c4501 => ?_) (fun c4501 => ?_))
    · refine wl_of hX hb cL_1154 (rw_iconst (pc' := 1155) rfl ?_)
      have k4502 : wKI H4485 m = wKI H m := (wKI_fr hW gm f4490 rfl)
      have k4503 : H4485 x 9 = H x 9 := (f4490 x 9 _ gx rfl)
      have k4504 : H4485 m 6 = H m 6 := (f4490 m 6 _ gm rfl)
      have k4505 : H4485 x 11 = H x 11 := (f4490 x 11 _ gx rfl)
      have k4506 : H4485 m 13 = H m 13 := (f4490 m 13 _ gm rfl)
      have k4507 : H4485 x 8 = H x 8 := (f4490 x 8 _ gx rfl)
      have k4508 : H4485 m 3 = H m 3 := (f4490 m 3 _ gm rfl)
      rw [show H4485 0 ((i + 1).toNat) = H 0 ((i + 1).toNat) by omega]
      have h4509 : RB T H4485 m e8 d8 := (RB_fr hW gm f4490 rfl hrb8)
      have h4510 : KNN T H4485 m e8 d8 := (KNN_fr hW gm f4490 rfl hknn8)
      refine wl_of hX hb cL_1155 (xc_V (pc' := 1158) (r := m) (as := [vI (H 0 ((i + 1).toNat)), vI 0]) (st := []) (lm_11_146) rfl rfl (Nat.le_of_ble_eq_true rfl) w4489 gm sh_42 (by decide) rfl (by decide) (u_265 (e := e8) (d := d8) w4489 gm ⟨by omega, by omega⟩ ⟨by decide, by decide⟩ (by omega) (by assumption) (by assumption) (by assumption) (by assumption) h4509 h4510) (fun R4511 T4512 H4513 p4514 => ?_))
      obtain ⟨e4515, w4517, f4518, z4519, e4516, b4520, p4521⟩ := p4514
      subst e4515
      subst e4516
      obtain ⟨a4522, a4523⟩ := p4521
      show WL _ _ _ _ 1158 [(4, vI i), (3, .ref o), (2, .ref m), (1, .ref x), (0, .ref 0)] [vI z4519] _ H4513
      refine wl_of hX hb cL_1158 (rw_pop (pc' := 1159) rfl rfl ?_)
      refine wl_of hX hb cL_1159 (rw_goto (p1 := 1653) (by decide) ?_)
      have k4524 : H4513 x 9 = H4485 x 9 := (f4518 x 9 _ gx rfl)
      have k4525 : H4513 m 6 = H4485 m 6 := (f4518 m 6 _ gm rfl)
      have k4526 : H4513 x 11 = H4485 x 11 := (f4518 x 11 _ gx rfl)
      have k4527 : H4513 m 13 = H4485 m 13 := (f4518 m 13 _ gm rfl)
      have k4528 : H4513 x 8 = H4485 x 8 := (f4518 x 8 _ gx rfl)
      have k4529 : H4513 m 3 = H4485 m 3 := (f4518 m 3 _ gm rfl)
      have k4530 : H4513 x 0 = H x 0 := ((f4518 x 0 _ gx rfl).trans (f4490 x 0 _ gx rfl))
      have q4531 : H4513 x 0 = (tc : Int) := k4530.trans e0
      have k4532 : H4513 m 5 = H m 5 := ((f4518 m 5 _ gm rfl).trans (f4490 m 5 _ gm rfl))
      have q4533 : H4513 m 5 = (tm : Int) := k4532.trans em
      have k4534 : H4513 x 6 = H x 6 := ((f4518 x 6 _ gx rfl).trans (f4490 x 6 _ gx rfl))
      have q4535 : H4513 x 6 = (cu : Int) := k4534.trans ecu
      have k4536 : H4513 x 7 = H x 7 := ((f4518 x 7 _ gx rfl).trans (f4490 x 7 _ gx rfl))
      have q4537 : H4513 x 7 = (dr : Int) := k4536.trans edr
      have h4538 : CEN T H4513 ce8 e8 d8 := (CEN_fr w4489 gce8 f4518 rfl p4493)
      have h4539 : TP T H4513 tc B := (TP_fr w4489 gtc f4518 rfl (TP_fr hW gtc f4490 rfl htc))
      have h4540 : TM T H4513 tm B := (TM_fr w4489 gtm f4518 rfl (TM_fr hW gtm f4490 rfl htm))
      have h4541 : DD T H4513 cu  := (DD_fr w4489 gcu f4518 rfl (DD_fr hW gcu f4490 rfl hcu))
      have h4542 : DD T H4513 dr  := (DD_fr w4489 gdr f4518 rfl (DD_fr hW gdr f4490 rfl hdr))
      have h4543 : DE T H4513 cu  := (DE_fr w4489 gcu f4518 rfl (DE_fr hW gcu f4490 rfl hdec))
      have h4544 : DE T H4513 dr  := (DE_fr w4489 gdr f4518 rfl (DE_fr hW gdr f4490 rfl hded))
      have h4545 : SP T H4513 x C8 := (SP_fr w4489 gx f4518 rfl (SP_fr hW gx f4490 rfl hsp))
      have h4546 : CU T H4513 cu e8 d8 n8 := (CU_fr w4489 gcu f4518 rfl (CU_fr hW gcu f4490 rfl hcu8))
      have h4547 : CY T H4513 cu (d8 0 3) g8 (H cu 17) := (CY_fr w4489 gcu f4518 rfl (CY_fr hW gcu f4490 rfl h4478))
      have k4548 : H4513 x 3 = H x 3 := ((f4518 x 3 _ gx rfl).trans (f4490 x 3 _ gx rfl))
      have q4549 : H4513 x 3 = (ce8 : Int) := k4548.trans ece8
      have h4550 : HDR T H4513 ce8  := (HDR_fr w4489 gce8 f4518 rfl (HDR_fr hW gce8 f4490 rfl hhdr8))
      have h4551 : RY T H4513 m (d8 0 3) g8 (H m 32) := (RY_fr w4489 gm f4518 rfl (RY_fr hW gm f4490 rfl h4479))
      have h4552 : RB T H4513 m e8 d8 := (RB_fr w4489 gm f4518 rfl h4509)
      exact WL.loc hX (by simp) (next T H4513 ⟨⟨w4517, g0, gx, gm, go, by omega, by omega⟩, ⟨_, tc, tm, cu, dr, _, _, _, _, _, ce8, q4531, gtc, h4539, q4533, gtm, h4540, q4535, gcu, q4537, gdr, h4541, h4542, h4543, h4544, h4545, hC1, hC2, h4546, h4552, (h4547).1, (h4551).1, hE, hZ, (by omega), (by assumption), (by omega), (by first | assumption | exact SG_0), q4549, gce8, h4538, h4550, a4523, gm⟩, by omega, by omega⟩ (by omega) (by omega))
    · refine wl_of hX hb cL_1150 (rw_iconst (pc' := 1151) rfl ?_)
      refine wl_of hX hb cL_1151 (rw_goto (p1 := 1155) (by decide) ?_)
      have k4553 : wKI H4485 m = wKI H m := (wKI_fr hW gm f4490 rfl)
      have k4554 : H4485 x 9 = H x 9 := (f4490 x 9 _ gx rfl)
      have k4555 : H4485 m 6 = H m 6 := (f4490 m 6 _ gm rfl)
      have k4556 : H4485 x 11 = H x 11 := (f4490 x 11 _ gx rfl)
      have k4557 : H4485 m 13 = H m 13 := (f4490 m 13 _ gm rfl)
      have k4558 : H4485 x 8 = H x 8 := (f4490 x 8 _ gx rfl)
      have k4559 : H4485 m 3 = H m 3 := (f4490 m 3 _ gm rfl)
      rw [show H4485 0 ((i + 1).toNat) = H 0 ((i + 1).toNat) by omega]
      have h4560 : RB T H4485 m e8 d8 := (RB_fr hW gm f4490 rfl hrb8)
      have h4561 : KNN T H4485 m e8 d8 := (KNN_fr hW gm f4490 rfl hknn8)
      refine wl_of hX hb cL_1155 (xc_V (pc' := 1158) (r := m) (as := [vI (H 0 ((i + 1).toNat)), vI 1]) (st := []) (lm_11_146) rfl rfl (Nat.le_of_ble_eq_true rfl) w4489 gm sh_42 (by decide) rfl (by decide) (u_265 (e := e8) (d := d8) w4489 gm ⟨by omega, by omega⟩ ⟨by decide, by decide⟩ (by omega) (by assumption) (by assumption) (by assumption) (by assumption) h4560 h4561) (fun R4562 T4563 H4564 p4565 => ?_))
      obtain ⟨e4566, w4568, f4569, z4570, e4567, b4571, p4572⟩ := p4565
      subst e4566
      subst e4567
      obtain ⟨a4573, a4574⟩ := p4572
      show WL _ _ _ _ 1158 [(4, vI i), (3, .ref o), (2, .ref m), (1, .ref x), (0, .ref 0)] [vI z4570] _ H4564
      refine wl_of hX hb cL_1158 (rw_pop (pc' := 1159) rfl rfl ?_)
      refine wl_of hX hb cL_1159 (rw_goto (p1 := 1653) (by decide) ?_)
      have k4575 : H4564 x 9 = H4485 x 9 := (f4569 x 9 _ gx rfl)
      have k4576 : H4564 m 6 = H4485 m 6 := (f4569 m 6 _ gm rfl)
      have k4577 : H4564 x 11 = H4485 x 11 := (f4569 x 11 _ gx rfl)
      have k4578 : H4564 m 13 = H4485 m 13 := (f4569 m 13 _ gm rfl)
      have k4579 : H4564 x 8 = H4485 x 8 := (f4569 x 8 _ gx rfl)
      have k4580 : H4564 m 3 = H4485 m 3 := (f4569 m 3 _ gm rfl)
      have k4581 : H4564 x 0 = H x 0 := ((f4569 x 0 _ gx rfl).trans (f4490 x 0 _ gx rfl))
      have q4582 : H4564 x 0 = (tc : Int) := k4581.trans e0
      have k4583 : H4564 m 5 = H m 5 := ((f4569 m 5 _ gm rfl).trans (f4490 m 5 _ gm rfl))
      have q4584 : H4564 m 5 = (tm : Int) := k4583.trans em
      have k4585 : H4564 x 6 = H x 6 := ((f4569 x 6 _ gx rfl).trans (f4490 x 6 _ gx rfl))
      have q4586 : H4564 x 6 = (cu : Int) := k4585.trans ecu
      have k4587 : H4564 x 7 = H x 7 := ((f4569 x 7 _ gx rfl).trans (f4490 x 7 _ gx rfl))
      have q4588 : H4564 x 7 = (dr : Int) := k4587.trans edr
      have h4589 : CEN T H4564 ce8 e8 d8 := (CEN_fr w4489 gce8 f4569 rfl p4493)
      have h4590 : TP T H4564 tc B := (TP_fr w4489 gtc f4569 rfl (TP_fr hW gtc f4490 rfl htc))
      have h4591 : TM T H4564 tm B := (TM_fr w4489 gtm f4569 rfl (TM_fr hW gtm f4490 rfl htm))
      have h4592 : DD T H4564 cu  := (DD_fr w4489 gcu f4569 rfl (DD_fr hW gcu f4490 rfl hcu))
      have h4593 : DD T H4564 dr  := (DD_fr w4489 gdr f4569 rfl (DD_fr hW gdr f4490 rfl hdr))
      have h4594 : DE T H4564 cu  := (DE_fr w4489 gcu f4569 rfl (DE_fr hW gcu f4490 rfl hdec))
      have h4595 : DE T H4564 dr  := (DE_fr w4489 gdr f4569 rfl (DE_fr hW gdr f4490 rfl hded))
      have h4596 : SP T H4564 x C8 := (SP_fr w4489 gx f4569 rfl (SP_fr hW gx f4490 rfl hsp))
      have h4597 : CU T H4564 cu e8 d8 n8 := (CU_fr w4489 gcu f4569 rfl (CU_fr hW gcu f4490 rfl hcu8))
      have h4598 : CY T H4564 cu (d8 0 3) g8 (H cu 17) := (CY_fr w4489 gcu f4569 rfl (CY_fr hW gcu f4490 rfl h4478))
      have k4599 : H4564 x 3 = H x 3 := ((f4569 x 3 _ gx rfl).trans (f4490 x 3 _ gx rfl))
      have q4600 : H4564 x 3 = (ce8 : Int) := k4599.trans ece8
      have h4601 : HDR T H4564 ce8  := (HDR_fr w4489 gce8 f4569 rfl (HDR_fr hW gce8 f4490 rfl hhdr8))
      have h4602 : RY T H4564 m (d8 0 3) g8 (H m 32) := (RY_fr w4489 gm f4569 rfl (RY_fr hW gm f4490 rfl h4479))
      have h4603 : RB T H4564 m e8 d8 := (RB_fr w4489 gm f4569 rfl h4560)
      exact WL.loc hX (by simp) (next T H4564 ⟨⟨w4568, g0, gx, gm, go, by omega, by omega⟩, ⟨_, tc, tm, cu, dr, _, _, _, _, _, ce8, q4582, gtc, h4590, q4584, gtm, h4591, q4586, gcu, q4588, gdr, h4592, h4593, h4594, h4595, h4596, hC1, hC2, h4597, h4603, (h4598).1, (h4602).1, hE, hZ, (by omega), (by assumption), (by omega), (by first | assumption | exact SG_0), q4600, gce8, h4589, h4601, a4574, gm⟩, by omega, by omega⟩ (by omega) (by omega))
set_option maxHeartbeats 4000000 in
theorem wl_c30 {kt : Nat → Option mc_E} {CB SB : Nat} {X : mc_S → Prop} {T : wq_T} {H : wq_H} {Len x m o : Nat} {i : Int} (hX : wlX kt CB SB X) (hb : T.2.1 ≤ CB ∧ T.2.2.1 ≤ SB) (hI : wlJ Len x m o T H) (hL : Len ≤ 3072) (hi : 0 ≤ i ∧ i + 6 ≤ Len) (hb2 : T.2.1 + 20 ≤ CB ∧ T.2.2.1 + 500 ≤ SB)  (next : ∀ T' H', wlJ Len x m o T' H' → T'.2.1 ≤ T.2.1 + 20 → T'.2.2.1 ≤ T.2.2.1 + 500 → WL kt CB SB X 1653 (wlL i x m o) [] T' H') : WL kt CB SB X 1162 (wlL i x m o) [] T H := by
  obtain ⟨⟨hW, g0, gx, gm, go, hK, hr⟩, hXI, hY1, hY2⟩ := hI
  refine wl_of hX hb cL_1162 (rw_aload_n (pc' := 1163) (v := .ref x) rfl rfl rfl ?_)
  obtain ⟨B, tc, tm, cu, dr, C8, e8, d8, n8, g8, ce8, e0, gtc, htc, em, gtm, htm, ecu, gcu, edr, gdr, hcu, hdr, hdec, hded, hsp, hC1, hC2, hcu8, hrb8, hcg8, hmn8, hE, hZ, hn8, hXA, hV8, hSG, ece8, gce8, hcen8, hhdr8, hknn8, -⟩ := hXI
  have hN3 := RB_n3 hrb8
  have hE13 : ∀ h : Nat, h < 24 → 0 ≤ e8 13 h ∧ e8 13 h ≤ 100 := fun k hk => by
    obtain ⟨s, h1, h2, h3⟩ := hcu8.1.2.2.1
    exact ⟨(h3 k hk).1, (h3 k hk).2.1⟩
  have hXW := hXA.1
  have hXN := hXA.2
  have hE0 : e8 0 3 = d8 0 3 ∧ e8 0 0 = d8 0 0 := by
    have h := hE 0 (by decide)
    exact ⟨congrFun h 3, congrFun h 0⟩
  have u4604 := CU_k hcu8
  have h4605 : CY T H cu (d8 0 3) g8 (H cu 17) := ⟨hcg8, rfl⟩
  have h4606 : RY T H m (d8 0 3) g8 (H m 32) := ⟨hmn8, rfl⟩
  obtain ⟨t9, ht9⟩ : ∃ t : Int, t = H x 9 := ⟨_, rfl⟩
  obtain ⟨r4607, q4608, g4609⟩ := hW.ref gx (t' := 6) (n := 13) (j := 2) (p := 0) (q := 0) rfl (by decide) rfl
  refine wl_of hX hb cL_1163 (xc_V (pc' := 1166) (r := x) (as := []) (st := []) (lm_11_147) rfl rfl (Nat.le_of_ble_eq_true rfl) hW gx sh_1 (by decide) rfl (by decide) (u_120 (e := e8) (d := d8) (n := n8) hW gx ecu gcu q4608 g4609 ece8 gce8 (by assumption) (by assumption) (by omega) (by omega) (by omega) (by omega) hcu8 hcen8 hhdr8) (fun R4610 T4611 H4612 p4613 => ?_))
  obtain ⟨e4614, w4616, f4617, z4618, e4615, b4619, p4620⟩ := p4613
  subst e4614
  subst e4615
  show WL _ _ _ _ 1166 [(4, vI i), (3, .ref o), (2, .ref m), (1, .ref x), (0, .ref 0)] [vI z4618] _ H4612
  refine wl_of hX hb cL_1166 (rw_pop (pc' := 1167) rfl rfl ?_)
  refine wl_of hX hb cL_1167 (rw_aload_n (pc' := 1168) (v := .ref m) rfl rfl rfl ?_)
  have k4622 : wKI H4612 m = wKI H m := (wKI_fr hW gm f4617 rfl)
  have k4623 : H4612 x 9 = H x 9 := (f4617 x 9 _ gx rfl)
  have k4624 : H4612 m 6 = H m 6 := (f4617 m 6 _ gm rfl)
  have k4625 : H4612 x 11 = H x 11 := (f4617 x 11 _ gx rfl)
  have k4626 : H4612 m 13 = H m 13 := (f4617 m 13 _ gm rfl)
  have k4627 : H4612 x 8 = H x 8 := (f4617 x 8 _ gx rfl)
  have k4628 : H4612 m 3 = H m 3 := (f4617 m 3 _ gm rfl)
  have h4629 : RB T H4612 m e8 d8 := (RB_fr hW gm f4617 rfl hrb8)
  have h4630 : KNN T H4612 m e8 d8 := (KNN_fr hW gm f4617 rfl hknn8)
  refine wl_of hX hb cL_1168 (xc_V (pc' := 1171) (r := m) (as := []) (st := []) (lm_11_150) rfl rfl (Nat.le_of_ble_eq_true rfl) w4616 gm sh_42 (by decide) rfl (by decide) (u_266 (e := e8) (d := d8) w4616 gm (by omega) (by assumption) (by assumption) (by assumption) (by assumption) h4629 h4630) (fun R4631 T4632 H4633 p4634 => ?_))
  obtain ⟨e4635, w4637, f4638, z4639, e4636, b4640, p4641⟩ := p4634
  subst e4635
  subst e4636
  obtain ⟨a4642, a4643⟩ := p4641
  show WL _ _ _ _ 1171 [(4, vI i), (3, .ref o), (2, .ref m), (1, .ref x), (0, .ref 0)] [vI z4639] _ H4633
  refine wl_of hX hb cL_1171 (rw_pop (pc' := 1172) rfl rfl ?_)
  refine wl_of hX hb cL_1172 (rw_goto (p1 := 1653) (by decide) ?_)
  have k4644 : H4633 x 9 = H4612 x 9 := (f4638 x 9 _ gx rfl)
  have k4645 : H4633 m 6 = H4612 m 6 := (f4638 m 6 _ gm rfl)
  have k4646 : H4633 x 11 = H4612 x 11 := (f4638 x 11 _ gx rfl)
  have k4647 : H4633 m 13 = H4612 m 13 := (f4638 m 13 _ gm rfl)
  have k4648 : H4633 x 8 = H4612 x 8 := (f4638 x 8 _ gx rfl)
  have k4649 : H4633 m 3 = H4612 m 3 := (f4638 m 3 _ gm rfl)
  have k4650 : H4633 x 0 = H x 0 := ((f4638 x 0 _ gx rfl).trans (f4617 x 0 _ gx rfl))
  have q4651 : H4633 x 0 = (tc : Int) := k4650.trans e0
  have k4652 : H4633 m 5 = H m 5 := ((f4638 m 5 _ gm rfl).trans (f4617 m 5 _ gm rfl))
  have q4653 : H4633 m 5 = (tm : Int) := k4652.trans em
  have k4654 : H4633 x 6 = H x 6 := ((f4638 x 6 _ gx rfl).trans (f4617 x 6 _ gx rfl))
  have q4655 : H4633 x 6 = (cu : Int) := k4654.trans ecu
  have k4656 : H4633 x 7 = H x 7 := ((f4638 x 7 _ gx rfl).trans (f4617 x 7 _ gx rfl))
  have q4657 : H4633 x 7 = (dr : Int) := k4656.trans edr
  have h4658 : CEN T H4633 ce8 e8 d8 := (CEN_fr w4616 gce8 f4638 rfl p4620)
  have h4659 : TP T H4633 tc B := (TP_fr w4616 gtc f4638 rfl (TP_fr hW gtc f4617 rfl htc))
  have h4660 : TM T H4633 tm B := (TM_fr w4616 gtm f4638 rfl (TM_fr hW gtm f4617 rfl htm))
  have h4661 : DD T H4633 cu  := (DD_fr w4616 gcu f4638 rfl (DD_fr hW gcu f4617 rfl hcu))
  have h4662 : DD T H4633 dr  := (DD_fr w4616 gdr f4638 rfl (DD_fr hW gdr f4617 rfl hdr))
  have h4663 : DE T H4633 cu  := (DE_fr w4616 gcu f4638 rfl (DE_fr hW gcu f4617 rfl hdec))
  have h4664 : DE T H4633 dr  := (DE_fr w4616 gdr f4638 rfl (DE_fr hW gdr f4617 rfl hded))
  have h4665 : SP T H4633 x C8 := (SP_fr w4616 gx f4638 rfl (SP_fr hW gx f4617 rfl hsp))
  have h4666 : CU T H4633 cu e8 d8 n8 := (CU_fr w4616 gcu f4638 rfl (CU_fr hW gcu f4617 rfl hcu8))
  have h4667 : CY T H4633 cu (d8 0 3) g8 (H cu 17) := (CY_fr w4616 gcu f4638 rfl (CY_fr hW gcu f4617 rfl h4605))
  have k4668 : H4633 x 3 = H x 3 := ((f4638 x 3 _ gx rfl).trans (f4617 x 3 _ gx rfl))
  have q4669 : H4633 x 3 = (ce8 : Int) := k4668.trans ece8
  have h4670 : HDR T H4633 ce8  := (HDR_fr w4616 gce8 f4638 rfl (HDR_fr hW gce8 f4617 rfl hhdr8))
  have h4671 : RY T H4633 m (d8 0 3) g8 (H m 32) := (RY_fr w4616 gm f4638 rfl (RY_fr hW gm f4617 rfl h4606))
  have h4672 : RB T H4633 m e8 d8 := (RB_fr w4616 gm f4638 rfl h4629)
  exact WL.loc hX (by simp) (next T H4633 ⟨⟨w4637, g0, gx, gm, go, by omega, by omega⟩, ⟨_, tc, tm, cu, dr, _, _, _, _, _, ce8, q4651, gtc, h4659, q4653, gtm, h4660, q4655, gcu, q4657, gdr, h4661, h4662, h4663, h4664, h4665, hC1, hC2, h4666, h4672, (h4667).1, (h4671).1, hE, hZ, (by omega), (by assumption), (by omega), (by first | assumption | exact SG_0), q4669, gce8, h4658, h4670, a4643, gm⟩, by omega, by omega⟩ (by omega) (by omega))
set_option maxHeartbeats 4000000 in
theorem wl_c31 {kt : Nat → Option mc_E} {CB SB : Nat} {X : mc_S → Prop} {T : wq_T} {H : wq_H} {Len x m o : Nat} {i : Int} (hX : wlX kt CB SB X) (hb : T.2.1 ≤ CB ∧ T.2.2.1 ≤ SB) (hI : wlJ Len x m o T H) (hL : Len ≤ 3072) (hi : 0 ≤ i ∧ i + 6 ≤ Len) (hb2 : T.2.1 + 20 ≤ CB ∧ T.2.2.1 + 500 ≤ SB)  (next : ∀ T' H', wlJ Len x m o T' H' → T'.2.1 ≤ T.2.1 + 20 → T'.2.2.1 ≤ T.2.2.1 + 500 → WL kt CB SB X 1653 (wlL i x m o) [] T' H') : WL kt CB SB X 1175 (wlL i x m o) [] T H := by
  obtain ⟨⟨hW, g0, gx, gm, go, hK, hr⟩, hXI, hY1, hY2⟩ := hI
  refine wl_of hX hb cL_1175 (rw_aload_n (pc' := 1176) (v := .ref x) rfl rfl rfl ?_)
  refine wl_of hX hb cL_1176 (rw_aload_n (pc' := 1177) (v := .ref 0) rfl rfl rfl ?_)
  refine wl_of hX hb cL_1177 (rw_iload (pc' := 1179) (z := i) rfl rfl ?_)
  refine wl_of hX hb cL_1179 (rw_iconst (pc' := 1180) rfl ?_)
  refine wl_of hX hb cL_1180 (rw_iadd (pc' := 1181) rfl ?_)
  refine wl_of hX hb cL_1181 (xa_I (so := 0) (pc' := 1182) (a := 0) hW g0 (wsh_s _) (by omega) (wty_s _ _) (by omega) (by omega) rfl (fun b4673 b4674 => ?_))
  obtain ⟨B, tc, tm, cu, dr, C8, e8, d8, n8, g8, ce8, e0, gtc, htc, em, gtm, htm, ecu, gcu, edr, gdr, hcu, hdr, hdec, hded, hsp, hC1, hC2, hcu8, hrb8, hcg8, hmn8, hE, hZ, hn8, hXA, hV8, hSG, ece8, gce8, hcen8, hhdr8, hknn8, -⟩ := hXI
  have hN3 := RB_n3 hrb8
  have hE13 : ∀ h : Nat, h < 24 → 0 ≤ e8 13 h ∧ e8 13 h ≤ 100 := fun k hk => by
    obtain ⟨s, h1, h2, h3⟩ := hcu8.1.2.2.1
    exact ⟨(h3 k hk).1, (h3 k hk).2.1⟩
  have hXW := hXA.1
  have hXN := hXA.2
  have hE0 : e8 0 3 = d8 0 3 ∧ e8 0 0 = d8 0 0 := by
    have h := hE 0 (by decide)
    exact ⟨congrFun h 3, congrFun h 0⟩
  have u4675 := CU_k hcu8
  have h4676 : CY T H cu (d8 0 3) g8 (H cu 17) := ⟨hcg8, rfl⟩
  have h4677 : RY T H m (d8 0 3) g8 (H m 32) := ⟨hmn8, rfl⟩
  obtain ⟨t9, ht9⟩ : ∃ t : Int, t = H x 9 := ⟨_, rfl⟩
  obtain ⟨y9, hy9⟩ : ∃ y : Int, y = H 0 ((i + 1).toNat) := ⟨_, rfl⟩
  obtain ⟨r4678, q4679, g4680⟩ := hW.ref gx (t' := 6) (n := 13) (j := 2) (p := 0) (q := 0) rfl (by decide) rfl
  refine wl_of hX hb cL_1182 (xc_V (pc' := 1185) (r := x) (as := [vI (H 0 ((i + 1).toNat))]) (st := []) (lm_11_151) rfl rfl (Nat.le_of_ble_eq_true rfl) hW gx sh_1 (by decide) rfl (by decide) (u_130 (e := e8) (d := d8) (n := n8) hW gx ⟨by omega, by omega⟩ ecu gcu q4679 g4680 ece8 gce8 (by assumption) (by assumption) (by omega) (by omega) (by omega) (by omega) hcu8 hcen8 hhdr8) (fun R4681 T4682 H4683 p4684 => ?_))
  obtain ⟨e4685, w4687, f4688, z4689, e4686, b4690, p4691⟩ := p4684
  subst e4685
  subst e4686
  show WL _ _ _ _ 1185 [(4, vI i), (3, .ref o), (2, .ref m), (1, .ref x), (0, .ref 0)] [vI z4689] _ H4683
  refine wl_of hX hb cL_1185 (rw_pop (pc' := 1186) rfl rfl ?_)
  refine wl_of hX hb cL_1186 (rw_aload_n (pc' := 1187) (v := .ref m) rfl rfl rfl ?_)
  refine wl_of hX hb cL_1187 (rw_aload_n (pc' := 1188) (v := .ref 0) rfl rfl rfl ?_)
  refine wl_of hX hb cL_1188 (rw_iload (pc' := 1190) (z := i) rfl rfl ?_)
  refine wl_of hX hb cL_1190 (rw_iconst (pc' := 1191) rfl ?_)
  refine wl_of hX hb cL_1191 (rw_iadd (pc' := 1192) rfl ?_)
  have k4695 : H4683 0 ((i + 1).toNat) = H 0 ((i + 1).toNat) := (f4688 0 ((i + 1).toNat) _ g0 (wmem_s rfl))
  refine wl_of hX hb cL_1192 (xa_I (so := 0) (pc' := 1193) (a := 0) w4687 g0 (wsh_s _) (by omega) (wty_s _ _) (by omega) (by omega) rfl (fun b4693 b4694 => ?_))
  have k4696 : wKI H4683 m = wKI H m := (wKI_fr hW gm f4688 rfl)
  have k4697 : H4683 x 9 = H x 9 := (f4688 x 9 _ gx rfl)
  have k4698 : H4683 m 6 = H m 6 := (f4688 m 6 _ gm rfl)
  have k4699 : H4683 x 11 = H x 11 := (f4688 x 11 _ gx rfl)
  have k4700 : H4683 m 13 = H m 13 := (f4688 m 13 _ gm rfl)
  have k4701 : H4683 x 8 = H x 8 := (f4688 x 8 _ gx rfl)
  have k4702 : H4683 m 3 = H m 3 := (f4688 m 3 _ gm rfl)
  rw [show H4683 0 ((i + 1).toNat) = H 0 ((i + 1).toNat) by omega]
  have h4703 : RB T H4683 m e8 d8 := (RB_fr hW gm f4688 rfl hrb8)
  have h4704 : KNN T H4683 m e8 d8 := (KNN_fr hW gm f4688 rfl hknn8)
  refine wl_of hX hb cL_1193 (xc_V (pc' := 1196) (r := m) (as := [vI (H 0 ((i + 1).toNat))]) (st := []) (lm_11_154) rfl rfl (Nat.le_of_ble_eq_true rfl) w4687 gm sh_42 (by decide) rfl (by decide) (u_271 (e := e8) (d := d8) w4687 gm ⟨by omega, by omega⟩ (by omega) (by assumption) (by assumption) (by assumption) (by assumption) h4703 h4704) (fun R4705 T4706 H4707 p4708 => ?_))
  obtain ⟨e4709, w4711, f4712, z4713, e4710, b4714, p4715⟩ := p4708
  subst e4709
  subst e4710
  obtain ⟨a4716, a4717⟩ := p4715
  show WL _ _ _ _ 1196 [(4, vI i), (3, .ref o), (2, .ref m), (1, .ref x), (0, .ref 0)] [vI z4713] _ H4707
  refine wl_of hX hb cL_1196 (rw_pop (pc' := 1197) rfl rfl ?_)
  refine wl_of hX hb cL_1197 (rw_goto (p1 := 1653) (by decide) ?_)
  have k4718 : H4707 x 9 = H4683 x 9 := (f4712 x 9 _ gx rfl)
  have k4719 : H4707 m 6 = H4683 m 6 := (f4712 m 6 _ gm rfl)
  have k4720 : H4707 x 11 = H4683 x 11 := (f4712 x 11 _ gx rfl)
  have k4721 : H4707 m 13 = H4683 m 13 := (f4712 m 13 _ gm rfl)
  have k4722 : H4707 x 8 = H4683 x 8 := (f4712 x 8 _ gx rfl)
  have k4723 : H4707 m 3 = H4683 m 3 := (f4712 m 3 _ gm rfl)
  have k4724 : H4707 x 0 = H x 0 := ((f4712 x 0 _ gx rfl).trans (f4688 x 0 _ gx rfl))
  have q4725 : H4707 x 0 = (tc : Int) := k4724.trans e0
  have k4726 : H4707 m 5 = H m 5 := ((f4712 m 5 _ gm rfl).trans (f4688 m 5 _ gm rfl))
  have q4727 : H4707 m 5 = (tm : Int) := k4726.trans em
  have k4728 : H4707 x 6 = H x 6 := ((f4712 x 6 _ gx rfl).trans (f4688 x 6 _ gx rfl))
  have q4729 : H4707 x 6 = (cu : Int) := k4728.trans ecu
  have k4730 : H4707 x 7 = H x 7 := ((f4712 x 7 _ gx rfl).trans (f4688 x 7 _ gx rfl))
  have q4731 : H4707 x 7 = (dr : Int) := k4730.trans edr
  have h4732 : CEN T H4707 ce8 e8 d8 := (CEN_fr w4687 gce8 f4712 rfl p4691)
  have h4733 : TP T H4707 tc B := (TP_fr w4687 gtc f4712 rfl (TP_fr hW gtc f4688 rfl htc))
  have h4734 : TM T H4707 tm B := (TM_fr w4687 gtm f4712 rfl (TM_fr hW gtm f4688 rfl htm))
  have h4735 : DD T H4707 cu  := (DD_fr w4687 gcu f4712 rfl (DD_fr hW gcu f4688 rfl hcu))
  have h4736 : DD T H4707 dr  := (DD_fr w4687 gdr f4712 rfl (DD_fr hW gdr f4688 rfl hdr))
  have h4737 : DE T H4707 cu  := (DE_fr w4687 gcu f4712 rfl (DE_fr hW gcu f4688 rfl hdec))
  have h4738 : DE T H4707 dr  := (DE_fr w4687 gdr f4712 rfl (DE_fr hW gdr f4688 rfl hded))
  have h4739 : SP T H4707 x C8 := (SP_fr w4687 gx f4712 rfl (SP_fr hW gx f4688 rfl hsp))
  have h4740 : CU T H4707 cu e8 d8 n8 := (CU_fr w4687 gcu f4712 rfl (CU_fr hW gcu f4688 rfl hcu8))
  have h4741 : CY T H4707 cu (d8 0 3) g8 (H cu 17) := (CY_fr w4687 gcu f4712 rfl (CY_fr hW gcu f4688 rfl h4676))
  have k4742 : H4707 x 3 = H x 3 := ((f4712 x 3 _ gx rfl).trans (f4688 x 3 _ gx rfl))
  have q4743 : H4707 x 3 = (ce8 : Int) := k4742.trans ece8
  have h4744 : HDR T H4707 ce8  := (HDR_fr w4687 gce8 f4712 rfl (HDR_fr hW gce8 f4688 rfl hhdr8))
  have h4745 : RY T H4707 m (d8 0 3) g8 (H m 32) := (RY_fr w4687 gm f4712 rfl (RY_fr hW gm f4688 rfl h4677))
  have h4746 : RB T H4707 m e8 d8 := (RB_fr w4687 gm f4712 rfl h4703)
  exact WL.loc hX (by simp) (next T H4707 ⟨⟨w4711, g0, gx, gm, go, by omega, by omega⟩, ⟨_, tc, tm, cu, dr, _, _, _, _, _, ce8, q4725, gtc, h4733, q4727, gtm, h4734, q4729, gcu, q4731, gdr, h4735, h4736, h4737, h4738, h4739, hC1, hC2, h4740, h4746, (h4741).1, (h4745).1, hE, hZ, (by omega), (by assumption), (by omega), (by first | assumption | exact SG_0), q4743, gce8, h4732, h4744, a4717, gm⟩, by omega, by omega⟩ (by omega) (by omega))
set_option maxHeartbeats 4000000 in
theorem wl_c32 {kt : Nat → Option mc_E} {CB SB : Nat} {X : mc_S → Prop} {T : wq_T} {H : wq_H} {Len x m o : Nat} {i : Int} (hX : wlX kt CB SB X) (hb : T.2.1 ≤ CB ∧ T.2.2.1 ≤ SB) (hI : wlJ Len x m o T H) (hL : Len ≤ 3072) (hi : 0 ≤ i ∧ i + 6 ≤ Len) (hb2 : T.2.1 + 20 ≤ CB ∧ T.2.2.1 + 500 ≤ SB)  (next : ∀ T' H', wlJ Len x m o T' H' → T'.2.1 ≤ T.2.1 + 20 → T'.2.2.1 ≤ T.2.2.1 + 500 → WL kt CB SB X 1653 (wlL i x m o) [] T' H') : WL kt CB SB X 1200 (wlL i x m o) [] T H := by
  obtain ⟨⟨hW, g0, gx, gm, go, hK, hr⟩, hXI, hY1, hY2⟩ := hI
  refine wl_of hX hb cL_1200 (rw_aload_n (pc' := 1201) (v := .ref x) rfl rfl rfl ?_)
  refine wl_of hX hb cL_1201 (rw_aload_n (pc' := 1202) (v := .ref 0) rfl rfl rfl ?_)
  refine wl_of hX hb cL_1202 (rw_iload (pc' := 1204) (z := i) rfl rfl ?_)
  refine wl_of hX hb cL_1204 (rw_iconst (pc' := 1205) rfl ?_)
  refine wl_of hX hb cL_1205 (rw_iadd (pc' := 1206) rfl ?_)
  refine wl_of hX hb cL_1206 (xa_I (so := 0) (pc' := 1207) (a := 0) hW g0 (wsh_s _) (by omega) (wty_s _ _) (by omega) (by omega) rfl (fun b4747 b4748 => ?_))
  obtain ⟨B, tc, tm, cu, dr, C8, e8, d8, n8, g8, ce8, e0, gtc, htc, em, gtm, htm, ecu, gcu, edr, gdr, hcu, hdr, hdec, hded, hsp, hC1, hC2, hcu8, hrb8, hcg8, hmn8, hE, hZ, hn8, hXA, hV8, hSG, ece8, gce8, hcen8, hhdr8, hknn8, -⟩ := hXI
  have hN3 := RB_n3 hrb8
  have hE13 : ∀ h : Nat, h < 24 → 0 ≤ e8 13 h ∧ e8 13 h ≤ 100 := fun k hk => by
    obtain ⟨s, h1, h2, h3⟩ := hcu8.1.2.2.1
    exact ⟨(h3 k hk).1, (h3 k hk).2.1⟩
  have hXW := hXA.1
  have hXN := hXA.2
  have hE0 : e8 0 3 = d8 0 3 ∧ e8 0 0 = d8 0 0 := by
    have h := hE 0 (by decide)
    exact ⟨congrFun h 3, congrFun h 0⟩
  have u4749 := CU_k hcu8
  have h4750 : CY T H cu (d8 0 3) g8 (H cu 17) := ⟨hcg8, rfl⟩
  have h4751 : RY T H m (d8 0 3) g8 (H m 32) := ⟨hmn8, rfl⟩
  obtain ⟨t9, ht9⟩ : ∃ t : Int, t = H x 9 := ⟨_, rfl⟩
  obtain ⟨y9, hy9⟩ : ∃ y : Int, y = H 0 ((i + 1).toNat) := ⟨_, rfl⟩
  obtain ⟨r4752, q4753, g4754⟩ := hW.ref gx (t' := 6) (n := 13) (j := 2) (p := 0) (q := 0) rfl (by decide) rfl
  refine wl_of hX hb cL_1207 (xc_V (pc' := 1210) (r := x) (as := [vI (H 0 ((i + 1).toNat))]) (st := []) (lm_11_155) rfl rfl (Nat.le_of_ble_eq_true rfl) hW gx sh_1 (by decide) rfl (by decide) (u_132 (e := e8) (d := d8) (n := n8) hW gx ⟨by omega, by omega⟩ ecu gcu q4753 g4754 ece8 gce8 (by assumption) (by assumption) (by omega) (by omega) (by omega) (by omega) hcu8 hcen8 hhdr8) (fun R4755 T4756 H4757 p4758 => ?_))
  obtain ⟨e4759, w4761, f4762, z4763, e4760, b4764, p4765⟩ := p4758
  subst e4759
  subst e4760
  show WL _ _ _ _ 1210 [(4, vI i), (3, .ref o), (2, .ref m), (1, .ref x), (0, .ref 0)] [vI z4763] _ H4757
  refine wl_of hX hb cL_1210 (rw_pop (pc' := 1211) rfl rfl ?_)
  refine wl_of hX hb cL_1211 (rw_aload_n (pc' := 1212) (v := .ref m) rfl rfl rfl ?_)
  refine wl_of hX hb cL_1212 (rw_aload_n (pc' := 1213) (v := .ref 0) rfl rfl rfl ?_)
  refine wl_of hX hb cL_1213 (rw_iload (pc' := 1215) (z := i) rfl rfl ?_)
  refine wl_of hX hb cL_1215 (rw_iconst (pc' := 1216) rfl ?_)
  refine wl_of hX hb cL_1216 (rw_iadd (pc' := 1217) rfl ?_)
  have k4769 : H4757 0 ((i + 1).toNat) = H 0 ((i + 1).toNat) := (f4762 0 ((i + 1).toNat) _ g0 (wmem_s rfl))
  refine wl_of hX hb cL_1217 (xa_I (so := 0) (pc' := 1218) (a := 0) w4761 g0 (wsh_s _) (by omega) (wty_s _ _) (by omega) (by omega) rfl (fun b4767 b4768 => ?_))
  have k4770 : wKI H4757 m = wKI H m := (wKI_fr hW gm f4762 rfl)
  have k4771 : H4757 x 9 = H x 9 := (f4762 x 9 _ gx rfl)
  have k4772 : H4757 m 6 = H m 6 := (f4762 m 6 _ gm rfl)
  have k4773 : H4757 x 11 = H x 11 := (f4762 x 11 _ gx rfl)
  have k4774 : H4757 m 13 = H m 13 := (f4762 m 13 _ gm rfl)
  have k4775 : H4757 x 8 = H x 8 := (f4762 x 8 _ gx rfl)
  have k4776 : H4757 m 3 = H m 3 := (f4762 m 3 _ gm rfl)
  rw [show H4757 0 ((i + 1).toNat) = H 0 ((i + 1).toNat) by omega]
  have h4777 : RB T H4757 m e8 d8 := (RB_fr hW gm f4762 rfl hrb8)
  have h4778 : KNN T H4757 m e8 d8 := (KNN_fr hW gm f4762 rfl hknn8)
  refine wl_of hX hb cL_1218 (xc_V (pc' := 1221) (r := m) (as := [vI (H 0 ((i + 1).toNat))]) (st := []) (lm_11_158) rfl rfl (Nat.le_of_ble_eq_true rfl) w4761 gm sh_42 (by decide) rfl (by decide) (u_272 (e := e8) (d := d8) w4761 gm ⟨by omega, by omega⟩ (by omega) (by assumption) (by assumption) (by assumption) (by assumption) h4777 h4778) (fun R4779 T4780 H4781 p4782 => ?_))
  obtain ⟨e4783, w4785, f4786, z4787, e4784, b4788, p4789⟩ := p4782
  subst e4783
  subst e4784
  obtain ⟨a4790, a4791⟩ := p4789
  show WL _ _ _ _ 1221 [(4, vI i), (3, .ref o), (2, .ref m), (1, .ref x), (0, .ref 0)] [vI z4787] _ H4781
  refine wl_of hX hb cL_1221 (rw_pop (pc' := 1222) rfl rfl ?_)
  refine wl_of hX hb cL_1222 (rw_goto (p1 := 1653) (by decide) ?_)
  have k4792 : H4781 x 9 = H4757 x 9 := (f4786 x 9 _ gx rfl)
  have k4793 : H4781 m 6 = H4757 m 6 := (f4786 m 6 _ gm rfl)
  have k4794 : H4781 x 11 = H4757 x 11 := (f4786 x 11 _ gx rfl)
  have k4795 : H4781 m 13 = H4757 m 13 := (f4786 m 13 _ gm rfl)
  have k4796 : H4781 x 8 = H4757 x 8 := (f4786 x 8 _ gx rfl)
  have k4797 : H4781 m 3 = H4757 m 3 := (f4786 m 3 _ gm rfl)
  have k4798 : H4781 x 0 = H x 0 := ((f4786 x 0 _ gx rfl).trans (f4762 x 0 _ gx rfl))
  have q4799 : H4781 x 0 = (tc : Int) := k4798.trans e0
  have k4800 : H4781 m 5 = H m 5 := ((f4786 m 5 _ gm rfl).trans (f4762 m 5 _ gm rfl))
  have q4801 : H4781 m 5 = (tm : Int) := k4800.trans em
  have k4802 : H4781 x 6 = H x 6 := ((f4786 x 6 _ gx rfl).trans (f4762 x 6 _ gx rfl))
  have q4803 : H4781 x 6 = (cu : Int) := k4802.trans ecu
  have k4804 : H4781 x 7 = H x 7 := ((f4786 x 7 _ gx rfl).trans (f4762 x 7 _ gx rfl))
  have q4805 : H4781 x 7 = (dr : Int) := k4804.trans edr
  have h4806 : CEN T H4781 ce8 e8 d8 := (CEN_fr w4761 gce8 f4786 rfl p4765)
  have h4807 : TP T H4781 tc B := (TP_fr w4761 gtc f4786 rfl (TP_fr hW gtc f4762 rfl htc))
  have h4808 : TM T H4781 tm B := (TM_fr w4761 gtm f4786 rfl (TM_fr hW gtm f4762 rfl htm))
  have h4809 : DD T H4781 cu  := (DD_fr w4761 gcu f4786 rfl (DD_fr hW gcu f4762 rfl hcu))
  have h4810 : DD T H4781 dr  := (DD_fr w4761 gdr f4786 rfl (DD_fr hW gdr f4762 rfl hdr))
  have h4811 : DE T H4781 cu  := (DE_fr w4761 gcu f4786 rfl (DE_fr hW gcu f4762 rfl hdec))
  have h4812 : DE T H4781 dr  := (DE_fr w4761 gdr f4786 rfl (DE_fr hW gdr f4762 rfl hded))
  have h4813 : SP T H4781 x C8 := (SP_fr w4761 gx f4786 rfl (SP_fr hW gx f4762 rfl hsp))
  have h4814 : CU T H4781 cu e8 d8 n8 := (CU_fr w4761 gcu f4786 rfl (CU_fr hW gcu f4762 rfl hcu8))
  have h4815 : CY T H4781 cu (d8 0 3) g8 (H cu 17) := (CY_fr w4761 gcu f4786 rfl (CY_fr hW gcu f4762 rfl h4750))
  have k4816 : H4781 x 3 = H x 3 := ((f4786 x 3 _ gx rfl).trans (f4762 x 3 _ gx rfl))
  have q4817 : H4781 x 3 = (ce8 : Int) := k4816.trans ece8
  have h4818 : HDR T H4781 ce8  := (HDR_fr w4761 gce8 f4786 rfl (HDR_fr hW gce8 f4762 rfl hhdr8))
  have h4819 : RY T H4781 m (d8 0 3) g8 (H m 32) := (RY_fr w4761 gm f4786 rfl (RY_fr hW gm f4762 rfl h4751))
  have h4820 : RB T H4781 m e8 d8 := (RB_fr w4761 gm f4786 rfl h4777)
  exact WL.loc hX (by simp) (next T H4781 ⟨⟨w4785, g0, gx, gm, go, by omega, by omega⟩, ⟨_, tc, tm, cu, dr, _, _, _, _, _, ce8, q4799, gtc, h4807, q4801, gtm, h4808, q4803, gcu, q4805, gdr, h4809, h4810, h4811, h4812, h4813, hC1, hC2, h4814, h4820, (h4815).1, (h4819).1, hE, hZ, (by omega), (by assumption), (by omega), (by first | assumption | exact SG_0), q4817, gce8, h4806, h4818, a4791, gm⟩, by omega, by omega⟩ (by omega) (by omega))
set_option maxHeartbeats 4000000 in
theorem wl_c33 {kt : Nat → Option mc_E} {CB SB : Nat} {X : mc_S → Prop} {T : wq_T} {H : wq_H} {Len x m o : Nat} {i : Int} (hX : wlX kt CB SB X) (hb : T.2.1 ≤ CB ∧ T.2.2.1 ≤ SB) (hI : wlJ Len x m o T H) (hL : Len ≤ 3072) (hi : 0 ≤ i ∧ i + 6 ≤ Len) (hb2 : T.2.1 + 20 ≤ CB ∧ T.2.2.1 + 500 ≤ SB)  (next : ∀ T' H', wlJ Len x m o T' H' → T'.2.1 ≤ T.2.1 + 20 → T'.2.2.1 ≤ T.2.2.1 + 500 → WL kt CB SB X 1653 (wlL i x m o) [] T' H') : WL kt CB SB X 1225 (wlL i x m o) [] T H := by
  obtain ⟨⟨hW, g0, gx, gm, go, hK, hr⟩, hXI, hY1, hY2⟩ := hI
  refine wl_of hX hb cL_1225 (rw_aload_n (pc' := 1226) (v := .ref x) rfl rfl rfl ?_)
  refine wl_of hX hb cL_1226 (rw_aload_n (pc' := 1227) (v := .ref 0) rfl rfl rfl ?_)
  refine wl_of hX hb cL_1227 (rw_iload (pc' := 1229) (z := i) rfl rfl ?_)
  refine wl_of hX hb cL_1229 (rw_iconst (pc' := 1230) rfl ?_)
  refine wl_of hX hb cL_1230 (rw_iadd (pc' := 1231) rfl ?_)
  refine wl_of hX hb cL_1231 (xa_I (so := 0) (pc' := 1232) (a := 0) hW g0 (wsh_s _) (by omega) (wty_s _ _) (by omega) (by omega) rfl (fun b4821 b4822 => ?_))
  obtain ⟨B, tc, tm, cu, dr, C8, e8, d8, n8, g8, ce8, e0, gtc, htc, em, gtm, htm, ecu, gcu, edr, gdr, hcu, hdr, hdec, hded, hsp, hC1, hC2, hcu8, hrb8, hcg8, hmn8, hE, hZ, hn8, hXA, hV8, hSG, ece8, gce8, hcen8, hhdr8, hknn8, -⟩ := hXI
  have hN3 := RB_n3 hrb8
  have hE13 : ∀ h : Nat, h < 24 → 0 ≤ e8 13 h ∧ e8 13 h ≤ 100 := fun k hk => by
    obtain ⟨s, h1, h2, h3⟩ := hcu8.1.2.2.1
    exact ⟨(h3 k hk).1, (h3 k hk).2.1⟩
  have hXW := hXA.1
  have hXN := hXA.2
  have hE0 : e8 0 3 = d8 0 3 ∧ e8 0 0 = d8 0 0 := by
    have h := hE 0 (by decide)
    exact ⟨congrFun h 3, congrFun h 0⟩
  have u4823 := CU_k hcu8
  have h4824 : CY T H cu (d8 0 3) g8 (H cu 17) := ⟨hcg8, rfl⟩
  have h4825 : RY T H m (d8 0 3) g8 (H m 32) := ⟨hmn8, rfl⟩
  obtain ⟨t9, ht9⟩ : ∃ t : Int, t = H x 9 := ⟨_, rfl⟩
  obtain ⟨y9, hy9⟩ : ∃ y : Int, y = H 0 ((i + 1).toNat) := ⟨_, rfl⟩
  obtain ⟨r4826, q4827, g4828⟩ := hW.ref gx (t' := 6) (n := 13) (j := 2) (p := 0) (q := 0) rfl (by decide) rfl
  refine wl_of hX hb cL_1232 (xc_V (pc' := 1235) (r := x) (as := [vI (H 0 ((i + 1).toNat))]) (st := []) (lm_11_159) rfl rfl (Nat.le_of_ble_eq_true rfl) hW gx sh_1 (by decide) rfl (by decide) (u_135 (e := e8) (d := d8) (n := n8) hW gx ⟨by omega, by omega⟩ ecu gcu q4827 g4828 ece8 gce8 (by assumption) (by assumption) (by omega) (by omega) (by omega) (by omega) hcu8 hcen8 hhdr8) (fun R4829 T4830 H4831 p4832 => ?_))
  obtain ⟨e4833, w4835, f4836, z4837, e4834, b4838, p4839⟩ := p4832
  subst e4833
  subst e4834
  show WL _ _ _ _ 1235 [(4, vI i), (3, .ref o), (2, .ref m), (1, .ref x), (0, .ref 0)] [vI z4837] _ H4831
  refine wl_of hX hb cL_1235 (rw_pop (pc' := 1236) rfl rfl ?_)
  refine wl_of hX hb cL_1236 (rw_aload_n (pc' := 1237) (v := .ref m) rfl rfl rfl ?_)
  refine wl_of hX hb cL_1237 (rw_aload_n (pc' := 1238) (v := .ref 0) rfl rfl rfl ?_)
  refine wl_of hX hb cL_1238 (rw_iload (pc' := 1240) (z := i) rfl rfl ?_)
  refine wl_of hX hb cL_1240 (rw_iconst (pc' := 1241) rfl ?_)
  refine wl_of hX hb cL_1241 (rw_iadd (pc' := 1242) rfl ?_)
  have k4843 : H4831 0 ((i + 1).toNat) = H 0 ((i + 1).toNat) := (f4836 0 ((i + 1).toNat) _ g0 (wmem_s rfl))
  refine wl_of hX hb cL_1242 (xa_I (so := 0) (pc' := 1243) (a := 0) w4835 g0 (wsh_s _) (by omega) (wty_s _ _) (by omega) (by omega) rfl (fun b4841 b4842 => ?_))
  have k4844 : wKI H4831 m = wKI H m := (wKI_fr hW gm f4836 rfl)
  have k4845 : H4831 x 9 = H x 9 := (f4836 x 9 _ gx rfl)
  have k4846 : H4831 m 6 = H m 6 := (f4836 m 6 _ gm rfl)
  have k4847 : H4831 x 11 = H x 11 := (f4836 x 11 _ gx rfl)
  have k4848 : H4831 m 13 = H m 13 := (f4836 m 13 _ gm rfl)
  have k4849 : H4831 x 8 = H x 8 := (f4836 x 8 _ gx rfl)
  have k4850 : H4831 m 3 = H m 3 := (f4836 m 3 _ gm rfl)
  rw [show H4831 0 ((i + 1).toNat) = H 0 ((i + 1).toNat) by omega]
  have h4851 : RB T H4831 m e8 d8 := (RB_fr hW gm f4836 rfl hrb8)
  have h4852 : KNN T H4831 m e8 d8 := (KNN_fr hW gm f4836 rfl hknn8)
  refine wl_of hX hb cL_1243 (xc_V (pc' := 1246) (r := m) (as := [vI (H 0 ((i + 1).toNat))]) (st := []) (lm_11_162) rfl rfl (Nat.le_of_ble_eq_true rfl) w4835 gm sh_42 (by decide) rfl (by decide) (u_275 (e := e8) (d := d8) w4835 gm ⟨by omega, by omega⟩ (by omega) (by assumption) (by assumption) (by assumption) (by assumption) h4851 h4852) (fun R4853 T4854 H4855 p4856 => ?_))
  obtain ⟨e4857, w4859, f4860, z4861, e4858, b4862, p4863⟩ := p4856
  subst e4857
  subst e4858
  obtain ⟨a4864, a4865⟩ := p4863
  show WL _ _ _ _ 1246 [(4, vI i), (3, .ref o), (2, .ref m), (1, .ref x), (0, .ref 0)] [vI z4861] _ H4855
  refine wl_of hX hb cL_1246 (rw_pop (pc' := 1247) rfl rfl ?_)
  refine wl_of hX hb cL_1247 (rw_goto (p1 := 1653) (by decide) ?_)
  have k4866 : H4855 x 9 = H4831 x 9 := (f4860 x 9 _ gx rfl)
  have k4867 : H4855 m 6 = H4831 m 6 := (f4860 m 6 _ gm rfl)
  have k4868 : H4855 x 11 = H4831 x 11 := (f4860 x 11 _ gx rfl)
  have k4869 : H4855 m 13 = H4831 m 13 := (f4860 m 13 _ gm rfl)
  have k4870 : H4855 x 8 = H4831 x 8 := (f4860 x 8 _ gx rfl)
  have k4871 : H4855 m 3 = H4831 m 3 := (f4860 m 3 _ gm rfl)
  have k4872 : H4855 x 0 = H x 0 := ((f4860 x 0 _ gx rfl).trans (f4836 x 0 _ gx rfl))
  have q4873 : H4855 x 0 = (tc : Int) := k4872.trans e0
  have k4874 : H4855 m 5 = H m 5 := ((f4860 m 5 _ gm rfl).trans (f4836 m 5 _ gm rfl))
  have q4875 : H4855 m 5 = (tm : Int) := k4874.trans em
  have k4876 : H4855 x 6 = H x 6 := ((f4860 x 6 _ gx rfl).trans (f4836 x 6 _ gx rfl))
  have q4877 : H4855 x 6 = (cu : Int) := k4876.trans ecu
  have k4878 : H4855 x 7 = H x 7 := ((f4860 x 7 _ gx rfl).trans (f4836 x 7 _ gx rfl))
  have q4879 : H4855 x 7 = (dr : Int) := k4878.trans edr
  have h4880 : CEN T H4855 ce8 e8 d8 := (CEN_fr w4835 gce8 f4860 rfl p4839)
  have h4881 : TP T H4855 tc B := (TP_fr w4835 gtc f4860 rfl (TP_fr hW gtc f4836 rfl htc))
  have h4882 : TM T H4855 tm B := (TM_fr w4835 gtm f4860 rfl (TM_fr hW gtm f4836 rfl htm))
  have h4883 : DD T H4855 cu  := (DD_fr w4835 gcu f4860 rfl (DD_fr hW gcu f4836 rfl hcu))
  have h4884 : DD T H4855 dr  := (DD_fr w4835 gdr f4860 rfl (DD_fr hW gdr f4836 rfl hdr))
  have h4885 : DE T H4855 cu  := (DE_fr w4835 gcu f4860 rfl (DE_fr hW gcu f4836 rfl hdec))
  have h4886 : DE T H4855 dr  := (DE_fr w4835 gdr f4860 rfl (DE_fr hW gdr f4836 rfl hded))
  have h4887 : SP T H4855 x C8 := (SP_fr w4835 gx f4860 rfl (SP_fr hW gx f4836 rfl hsp))
  have h4888 : CU T H4855 cu e8 d8 n8 := (CU_fr w4835 gcu f4860 rfl (CU_fr hW gcu f4836 rfl hcu8))
  have h4889 : CY T H4855 cu (d8 0 3) g8 (H cu 17) := (CY_fr w4835 gcu f4860 rfl (CY_fr hW gcu f4836 rfl h4824))
  have k4890 : H4855 x 3 = H x 3 := ((f4860 x 3 _ gx rfl).trans (f4836 x 3 _ gx rfl))
  have q4891 : H4855 x 3 = (ce8 : Int) := k4890.trans ece8
  have h4892 : HDR T H4855 ce8  := (HDR_fr w4835 gce8 f4860 rfl (HDR_fr hW gce8 f4836 rfl hhdr8))
  have h4893 : RY T H4855 m (d8 0 3) g8 (H m 32) := (RY_fr w4835 gm f4860 rfl (RY_fr hW gm f4836 rfl h4825))
  have h4894 : RB T H4855 m e8 d8 := (RB_fr w4835 gm f4860 rfl h4851)
  exact WL.loc hX (by simp) (next T H4855 ⟨⟨w4859, g0, gx, gm, go, by omega, by omega⟩, ⟨_, tc, tm, cu, dr, _, _, _, _, _, ce8, q4873, gtc, h4881, q4875, gtm, h4882, q4877, gcu, q4879, gdr, h4883, h4884, h4885, h4886, h4887, hC1, hC2, h4888, h4894, (h4889).1, (h4893).1, hE, hZ, (by omega), (by assumption), (by omega), (by first | assumption | exact SG_0), q4891, gce8, h4880, h4892, a4865, gm⟩, by omega, by omega⟩ (by omega) (by omega))
set_option maxHeartbeats 4000000 in
theorem wl_c34 {kt : Nat → Option mc_E} {CB SB : Nat} {X : mc_S → Prop} {T : wq_T} {H : wq_H} {Len x m o : Nat} {i : Int} (hX : wlX kt CB SB X) (hb : T.2.1 ≤ CB ∧ T.2.2.1 ≤ SB) (hI : wlJ Len x m o T H) (hL : Len ≤ 3072) (hi : 0 ≤ i ∧ i + 6 ≤ Len) (hb2 : T.2.1 + 20 ≤ CB ∧ T.2.2.1 + 500 ≤ SB)  (next : ∀ T' H', wlJ Len x m o T' H' → T'.2.1 ≤ T.2.1 + 20 → T'.2.2.1 ≤ T.2.2.1 + 500 → WL kt CB SB X 1653 (wlL i x m o) [] T' H') : WL kt CB SB X 1250 (wlL i x m o) [] T H := by
  obtain ⟨⟨hW, g0, gx, gm, go, hK, hr⟩, hXI, hY1, hY2⟩ := hI
  refine wl_of hX hb cL_1250 (rw_aload_n (pc' := 1251) (v := .ref x) rfl rfl rfl ?_)
  obtain ⟨B, tc, tm, cu, dr, C8, e8, d8, n8, g8, ce8, e0, gtc, htc, em, gtm, htm, ecu, gcu, edr, gdr, hcu, hdr, hdec, hded, hsp, hC1, hC2, hcu8, hrb8, hcg8, hmn8, hE, hZ, hn8, hXA, hV8, hSG, ece8, gce8, hcen8, hhdr8, hknn8, -⟩ := hXI
  have hN3 := RB_n3 hrb8
  have hE13 : ∀ h : Nat, h < 24 → 0 ≤ e8 13 h ∧ e8 13 h ≤ 100 := fun k hk => by
    obtain ⟨s, h1, h2, h3⟩ := hcu8.1.2.2.1
    exact ⟨(h3 k hk).1, (h3 k hk).2.1⟩
  have hXW := hXA.1
  have hXN := hXA.2
  have hE0 : e8 0 3 = d8 0 3 ∧ e8 0 0 = d8 0 0 := by
    have h := hE 0 (by decide)
    exact ⟨congrFun h 3, congrFun h 0⟩
  have u4895 := CU_k hcu8
  have h4896 : CY T H cu (d8 0 3) g8 (H cu 17) := ⟨hcg8, rfl⟩
  have h4897 : RY T H m (d8 0 3) g8 (H m 32) := ⟨hmn8, rfl⟩
  obtain ⟨t9, ht9⟩ : ∃ t : Int, t = H x 9 := ⟨_, rfl⟩
  obtain ⟨r4898, q4899, g4900⟩ := hW.ref gx (t' := 6) (n := 13) (j := 2) (p := 0) (q := 0) rfl (by decide) rfl
  refine wl_of hX hb cL_1251 (xc_V (pc' := 1254) (r := x) (as := []) (st := []) (lm_11_163) rfl rfl (Nat.le_of_ble_eq_true rfl) hW gx sh_1 (by decide) rfl (by decide) (u_137 (e := e8) (d := d8) (n := n8) hW gx ecu gcu q4899 g4900 ece8 gce8 (by assumption) (by assumption) (by omega) (by omega) (by omega) (by omega) hcu8 hcen8 hhdr8) (fun R4901 T4902 H4903 p4904 => ?_))
  obtain ⟨e4905, w4907, f4908, z4909, e4906, b4910, p4911⟩ := p4904
  subst e4905
  subst e4906
  show WL _ _ _ _ 1254 [(4, vI i), (3, .ref o), (2, .ref m), (1, .ref x), (0, .ref 0)] [vI z4909] _ H4903
  refine wl_of hX hb cL_1254 (rw_pop (pc' := 1255) rfl rfl ?_)
  refine wl_of hX hb cL_1255 (rw_aload_n (pc' := 1256) (v := .ref m) rfl rfl rfl ?_)
  have k4913 : wKI H4903 m = wKI H m := (wKI_fr hW gm f4908 rfl)
  have k4914 : H4903 x 9 = H x 9 := (f4908 x 9 _ gx rfl)
  have k4915 : H4903 m 6 = H m 6 := (f4908 m 6 _ gm rfl)
  have k4916 : H4903 x 11 = H x 11 := (f4908 x 11 _ gx rfl)
  have k4917 : H4903 m 13 = H m 13 := (f4908 m 13 _ gm rfl)
  have k4918 : H4903 x 8 = H x 8 := (f4908 x 8 _ gx rfl)
  have k4919 : H4903 m 3 = H m 3 := (f4908 m 3 _ gm rfl)
  have h4920 : RB T H4903 m e8 d8 := (RB_fr hW gm f4908 rfl hrb8)
  have h4921 : KNN T H4903 m e8 d8 := (KNN_fr hW gm f4908 rfl hknn8)
  refine wl_of hX hb cL_1256 (xc_V (pc' := 1259) (r := m) (as := []) (st := []) (lm_11_166) rfl rfl (Nat.le_of_ble_eq_true rfl) w4907 gm sh_42 (by decide) rfl (by decide) (u_276 (e := e8) (d := d8) w4907 gm (by omega) (by assumption) (by assumption) (by assumption) (by assumption) h4920 h4921) (fun R4922 T4923 H4924 p4925 => ?_))
  obtain ⟨e4926, w4928, f4929, z4930, e4927, b4931, p4932⟩ := p4925
  subst e4926
  subst e4927
  obtain ⟨a4933, a4934⟩ := p4932
  show WL _ _ _ _ 1259 [(4, vI i), (3, .ref o), (2, .ref m), (1, .ref x), (0, .ref 0)] [vI z4930] _ H4924
  refine wl_of hX hb cL_1259 (rw_pop (pc' := 1260) rfl rfl ?_)
  refine wl_of hX hb cL_1260 (rw_goto (p1 := 1653) (by decide) ?_)
  have k4935 : H4924 x 9 = H4903 x 9 := (f4929 x 9 _ gx rfl)
  have k4936 : H4924 m 6 = H4903 m 6 := (f4929 m 6 _ gm rfl)
  have k4937 : H4924 x 11 = H4903 x 11 := (f4929 x 11 _ gx rfl)
  have k4938 : H4924 m 13 = H4903 m 13 := (f4929 m 13 _ gm rfl)
  have k4939 : H4924 x 8 = H4903 x 8 := (f4929 x 8 _ gx rfl)
  have k4940 : H4924 m 3 = H4903 m 3 := (f4929 m 3 _ gm rfl)
  have k4941 : H4924 x 0 = H x 0 := ((f4929 x 0 _ gx rfl).trans (f4908 x 0 _ gx rfl))
  have q4942 : H4924 x 0 = (tc : Int) := k4941.trans e0
  have k4943 : H4924 m 5 = H m 5 := ((f4929 m 5 _ gm rfl).trans (f4908 m 5 _ gm rfl))
  have q4944 : H4924 m 5 = (tm : Int) := k4943.trans em
  have k4945 : H4924 x 6 = H x 6 := ((f4929 x 6 _ gx rfl).trans (f4908 x 6 _ gx rfl))
  have q4946 : H4924 x 6 = (cu : Int) := k4945.trans ecu
  have k4947 : H4924 x 7 = H x 7 := ((f4929 x 7 _ gx rfl).trans (f4908 x 7 _ gx rfl))
  have q4948 : H4924 x 7 = (dr : Int) := k4947.trans edr
  have h4949 : CEN T H4924 ce8 e8 d8 := (CEN_fr w4907 gce8 f4929 rfl p4911)
  have h4950 : TP T H4924 tc B := (TP_fr w4907 gtc f4929 rfl (TP_fr hW gtc f4908 rfl htc))
  have h4951 : TM T H4924 tm B := (TM_fr w4907 gtm f4929 rfl (TM_fr hW gtm f4908 rfl htm))
  have h4952 : DD T H4924 cu  := (DD_fr w4907 gcu f4929 rfl (DD_fr hW gcu f4908 rfl hcu))
  have h4953 : DD T H4924 dr  := (DD_fr w4907 gdr f4929 rfl (DD_fr hW gdr f4908 rfl hdr))
  have h4954 : DE T H4924 cu  := (DE_fr w4907 gcu f4929 rfl (DE_fr hW gcu f4908 rfl hdec))
  have h4955 : DE T H4924 dr  := (DE_fr w4907 gdr f4929 rfl (DE_fr hW gdr f4908 rfl hded))
  have h4956 : SP T H4924 x C8 := (SP_fr w4907 gx f4929 rfl (SP_fr hW gx f4908 rfl hsp))
  have h4957 : CU T H4924 cu e8 d8 n8 := (CU_fr w4907 gcu f4929 rfl (CU_fr hW gcu f4908 rfl hcu8))
  have h4958 : CY T H4924 cu (d8 0 3) g8 (H cu 17) := (CY_fr w4907 gcu f4929 rfl (CY_fr hW gcu f4908 rfl h4896))
  have k4959 : H4924 x 3 = H x 3 := ((f4929 x 3 _ gx rfl).trans (f4908 x 3 _ gx rfl))
  have q4960 : H4924 x 3 = (ce8 : Int) := k4959.trans ece8
  have h4961 : HDR T H4924 ce8  := (HDR_fr w4907 gce8 f4929 rfl (HDR_fr hW gce8 f4908 rfl hhdr8))
  have h4962 : RY T H4924 m (d8 0 3) g8 (H m 32) := (RY_fr w4907 gm f4929 rfl (RY_fr hW gm f4908 rfl h4897))
  have h4963 : RB T H4924 m e8 d8 := (RB_fr w4907 gm f4929 rfl h4920)
  exact WL.loc hX (by simp) (next T H4924 ⟨⟨w4928, g0, gx, gm, go, by omega, by omega⟩, ⟨_, tc, tm, cu, dr, _, _, _, _, _, ce8, q4942, gtc, h4950, q4944, gtm, h4951, q4946, gcu, q4948, gdr, h4952, h4953, h4954, h4955, h4956, hC1, hC2, h4957, h4963, (h4958).1, (h4962).1, hE, hZ, (by omega), (by assumption), (by omega), (by first | assumption | exact SG_0), q4960, gce8, h4949, h4961, a4934, gm⟩, by omega, by omega⟩ (by omega) (by omega))
set_option maxHeartbeats 4000000 in
theorem wl_c35 {kt : Nat → Option mc_E} {CB SB : Nat} {X : mc_S → Prop} {T : wq_T} {H : wq_H} {Len x m o : Nat} {i : Int} (hX : wlX kt CB SB X) (hb : T.2.1 ≤ CB ∧ T.2.2.1 ≤ SB) (hI : wlJ Len x m o T H) (hL : Len ≤ 3072) (hi : 0 ≤ i ∧ i + 6 ≤ Len) (hb2 : T.2.1 + 20 ≤ CB ∧ T.2.2.1 + 500 ≤ SB)  (next : ∀ T' H', wlJ Len x m o T' H' → T'.2.1 ≤ T.2.1 + 20 → T'.2.2.1 ≤ T.2.2.1 + 500 → WL kt CB SB X 1653 (wlL i x m o) [] T' H') : WL kt CB SB X 1263 (wlL i x m o) [] T H := by
  obtain ⟨⟨hW, g0, gx, gm, go, hK, hr⟩, hXI, hY1, hY2⟩ := hI
  refine wl_of hX hb cL_1263 (rw_aload_n (pc' := 1264) (v := .ref x) rfl rfl rfl ?_)
  refine wl_of hX hb cL_1264 (rw_aload_n (pc' := 1265) (v := .ref 0) rfl rfl rfl ?_)
  refine wl_of hX hb cL_1265 (rw_iload (pc' := 1267) (z := i) rfl rfl ?_)
  refine wl_of hX hb cL_1267 (rw_iconst (pc' := 1268) rfl ?_)
  refine wl_of hX hb cL_1268 (rw_iadd (pc' := 1269) rfl ?_)
  refine wl_of hX hb cL_1269 (xa_I (so := 0) (pc' := 1270) (a := 0) hW g0 (wsh_s _) (by omega) (wty_s _ _) (by omega) (by omega) rfl (fun b4964 b4965 => ?_))
  refine wl_of hX hb cL_1270 (rw_aload_n (pc' := 1271) (v := .ref 0) rfl rfl rfl ?_)
  refine wl_of hX hb cL_1271 (rw_iload (pc' := 1273) (z := i) rfl rfl ?_)
  refine wl_of hX hb cL_1273 (rw_iconst (pc' := 1274) rfl ?_)
  refine wl_of hX hb cL_1274 (rw_iadd (pc' := 1275) rfl ?_)
  refine wl_of hX hb cL_1275 (xa_I (so := 0) (pc' := 1276) (a := 0) hW g0 (wsh_s _) (by omega) (wty_s _ _) (by omega) (by omega) rfl (fun b4966 b4967 => ?_))
  refine wl_of hX hb cL_1276 (rw_if_eq (p1 := 1283) (p2 := 1279) (by decide) rfl ⟨by omega, by omega⟩ (fun c4968 => ?_) (fun c4968 => ?_))
  · refine wl_of hX hb cL_1283 (rw_iconst (pc' := 1284) rfl ?_)
    obtain ⟨B, tc, tm, cu, dr, C8, e8, d8, n8, g8, ce8, e0, gtc, htc, em, gtm, htm, ecu, gcu, edr, gdr, hcu, hdr, hdec, hded, hsp, hC1, hC2, hcu8, hrb8, hcg8, hmn8, hE, hZ, hn8, hXA, hV8, hSG, ece8, gce8, hcen8, hhdr8, hknn8, -⟩ := hXI
    have hN3 := RB_n3 hrb8
    have hE13 : ∀ h : Nat, h < 24 → 0 ≤ e8 13 h ∧ e8 13 h ≤ 100 := fun k hk => by
      obtain ⟨s, h1, h2, h3⟩ := hcu8.1.2.2.1
      exact ⟨(h3 k hk).1, (h3 k hk).2.1⟩
    have hXW := hXA.1
    have hXN := hXA.2
    have hE0 : e8 0 3 = d8 0 3 ∧ e8 0 0 = d8 0 0 := by
      have h := hE 0 (by decide)
      exact ⟨congrFun h 3, congrFun h 0⟩
    have u4969 := CU_k hcu8
    have h4970 : CY T H cu (d8 0 3) g8 (H cu 17) := ⟨hcg8, rfl⟩
    have h4971 : RY T H m (d8 0 3) g8 (H m 32) := ⟨hmn8, rfl⟩
    obtain ⟨t9, ht9⟩ : ∃ t : Int, t = H x 9 := ⟨_, rfl⟩
    obtain ⟨y9, hy9⟩ : ∃ y : Int, y = 0 := ⟨_, rfl⟩
    obtain ⟨r4972, q4973, g4974⟩ := hW.ref gx (t' := 6) (n := 13) (j := 2) (p := 0) (q := 0) rfl (by decide) rfl
    refine wl_of hX hb cL_1284 (xc_V (pc' := 1287) (r := x) (as := [vI (H 0 ((i + 1).toNat)), vI 0]) (st := []) (lm_11_167) rfl rfl (Nat.le_of_ble_eq_true rfl) hW gx sh_1 (by decide) rfl (by decide) (u_146 (e := e8) (d := d8) (n := n8) hW gx ⟨by omega, by omega⟩ ⟨by decide, by decide⟩ ecu gcu q4973 g4974 ece8 gce8 (by assumption) (by assumption) (by omega) (by omega) (by omega) (by omega) hcu8 hcen8 hhdr8) (fun R4975 T4976 H4977 p4978 => ?_))
    obtain ⟨e4979, w4981, f4982, z4983, e4980, b4984, p4985⟩ := p4978
    subst e4979
    subst e4980
    show WL _ _ _ _ 1287 [(4, vI i), (3, .ref o), (2, .ref m), (1, .ref x), (0, .ref 0)] [vI z4983] _ H4977
    refine wl_of hX hb cL_1287 (rw_pop (pc' := 1288) rfl rfl ?_)
    refine wl_of hX hb cL_1288 (rw_aload_n (pc' := 1289) (v := .ref m) rfl rfl rfl ?_)
    refine wl_of hX hb cL_1289 (rw_aload_n (pc' := 1290) (v := .ref 0) rfl rfl rfl ?_)
    refine wl_of hX hb cL_1290 (rw_iload (pc' := 1292) (z := i) rfl rfl ?_)
    refine wl_of hX hb cL_1292 (rw_iconst (pc' := 1293) rfl ?_)
    refine wl_of hX hb cL_1293 (rw_iadd (pc' := 1294) rfl ?_)
    have k4989 : H4977 0 ((i + 1).toNat) = H 0 ((i + 1).toNat) := (f4982 0 ((i + 1).toNat) _ g0 (wmem_s rfl))
    refine wl_of hX hb cL_1294 (xa_I (so := 0) (pc' := 1295) (a := 0) w4981 g0 (wsh_s _) (by omega) (wty_s _ _) (by omega) (by omega) rfl (fun b4987 b4988 => ?_))
    refine wl_of hX hb cL_1295 (rw_aload_n (pc' := 1296) (v := .ref 0) rfl rfl rfl ?_)
    refine wl_of hX hb cL_1296 (rw_iload (pc' := 1298) (z := i) rfl rfl ?_)
    refine wl_of hX hb cL_1298 (rw_iconst (pc' := 1299) rfl ?_)
    refine wl_of hX hb cL_1299 (rw_iadd (pc' := 1300) rfl ?_)
    have k4992 : H4977 0 ((i + 2).toNat) = H 0 ((i + 2).toNat) := (f4982 0 ((i + 2).toNat) _ g0 (wmem_s rfl))
    refine wl_of hX hb cL_1300 (xa_I (so := 0) (pc' := 1301) (a := 0) w4981 g0 (wsh_s _) (by omega) (wty_s _ _) (by omega) (by omega) rfl (fun b4990 b4991 => ?_))
    refine wl_of hX hb cL_1301 (rw_if_eq (p1 := 1308) (p2 := 1304) (by decide) rfl ⟨by omega, by omega⟩ (fun c4993 => ?_) (fun c4993 => ?_))
    · refine wl_of hX hb cL_1308 (rw_iconst (pc' := 1309) rfl ?_)
      have k4994 : wKI H4977 m = wKI H m := (wKI_fr hW gm f4982 rfl)
      have k4995 : H4977 x 9 = H x 9 := (f4982 x 9 _ gx rfl)
      have k4996 : H4977 m 6 = H m 6 := (f4982 m 6 _ gm rfl)
      have k4997 : H4977 x 11 = H x 11 := (f4982 x 11 _ gx rfl)
      have k4998 : H4977 m 13 = H m 13 := (f4982 m 13 _ gm rfl)
      have k4999 : H4977 x 8 = H x 8 := (f4982 x 8 _ gx rfl)
      have k5000 : H4977 m 3 = H m 3 := (f4982 m 3 _ gm rfl)
      rw [show H4977 0 ((i + 1).toNat) = H 0 ((i + 1).toNat) by omega]
      have h5001 : RB T H4977 m e8 d8 := (RB_fr hW gm f4982 rfl hrb8)
      have h5002 : KNN T H4977 m e8 d8 := (KNN_fr hW gm f4982 rfl hknn8)
      refine wl_of hX hb cL_1309 (xc_V (pc' := 1312) (r := m) (as := [vI (H 0 ((i + 1).toNat)), vI 0]) (st := []) (lm_11_170) rfl rfl (Nat.le_of_ble_eq_true rfl) w4981 gm sh_42 (by decide) rfl (by decide) (u_279 (e := e8) (d := d8) w4981 gm ⟨by omega, by omega⟩ ⟨by decide, by decide⟩ (by omega) (by assumption) (by assumption) (by assumption) (by assumption) h5001 h5002) (fun R5003 T5004 H5005 p5006 => ?_))
      obtain ⟨e5007, w5009, f5010, z5011, e5008, b5012, p5013⟩ := p5006
      subst e5007
      subst e5008
      obtain ⟨a5014, a5015⟩ := p5013
      show WL _ _ _ _ 1312 [(4, vI i), (3, .ref o), (2, .ref m), (1, .ref x), (0, .ref 0)] [vI z5011] _ H5005
      refine wl_of hX hb cL_1312 (rw_pop (pc' := 1313) rfl rfl ?_)
      refine wl_of hX hb cL_1313 (rw_goto (p1 := 1653) (by decide) ?_)
      have k5016 : H5005 x 9 = H4977 x 9 := (f5010 x 9 _ gx rfl)
      have k5017 : H5005 m 6 = H4977 m 6 := (f5010 m 6 _ gm rfl)
      have k5018 : H5005 x 11 = H4977 x 11 := (f5010 x 11 _ gx rfl)
      have k5019 : H5005 m 13 = H4977 m 13 := (f5010 m 13 _ gm rfl)
      have k5020 : H5005 x 8 = H4977 x 8 := (f5010 x 8 _ gx rfl)
      have k5021 : H5005 m 3 = H4977 m 3 := (f5010 m 3 _ gm rfl)
      have k5022 : H5005 x 0 = H x 0 := ((f5010 x 0 _ gx rfl).trans (f4982 x 0 _ gx rfl))
      have q5023 : H5005 x 0 = (tc : Int) := k5022.trans e0
      have k5024 : H5005 m 5 = H m 5 := ((f5010 m 5 _ gm rfl).trans (f4982 m 5 _ gm rfl))
      have q5025 : H5005 m 5 = (tm : Int) := k5024.trans em
      have k5026 : H5005 x 6 = H x 6 := ((f5010 x 6 _ gx rfl).trans (f4982 x 6 _ gx rfl))
      have q5027 : H5005 x 6 = (cu : Int) := k5026.trans ecu
      have k5028 : H5005 x 7 = H x 7 := ((f5010 x 7 _ gx rfl).trans (f4982 x 7 _ gx rfl))
      have q5029 : H5005 x 7 = (dr : Int) := k5028.trans edr
      have h5030 : CEN T H5005 ce8 e8 d8 := (CEN_fr w4981 gce8 f5010 rfl p4985)
      have h5031 : TP T H5005 tc B := (TP_fr w4981 gtc f5010 rfl (TP_fr hW gtc f4982 rfl htc))
      have h5032 : TM T H5005 tm B := (TM_fr w4981 gtm f5010 rfl (TM_fr hW gtm f4982 rfl htm))
      have h5033 : DD T H5005 cu  := (DD_fr w4981 gcu f5010 rfl (DD_fr hW gcu f4982 rfl hcu))
      have h5034 : DD T H5005 dr  := (DD_fr w4981 gdr f5010 rfl (DD_fr hW gdr f4982 rfl hdr))
      have h5035 : DE T H5005 cu  := (DE_fr w4981 gcu f5010 rfl (DE_fr hW gcu f4982 rfl hdec))
      have h5036 : DE T H5005 dr  := (DE_fr w4981 gdr f5010 rfl (DE_fr hW gdr f4982 rfl hded))
      have h5037 : SP T H5005 x C8 := (SP_fr w4981 gx f5010 rfl (SP_fr hW gx f4982 rfl hsp))
      have h5038 : CU T H5005 cu e8 d8 n8 := (CU_fr w4981 gcu f5010 rfl (CU_fr hW gcu f4982 rfl hcu8))
      have h5039 : CY T H5005 cu (d8 0 3) g8 (H cu 17) := (CY_fr w4981 gcu f5010 rfl (CY_fr hW gcu f4982 rfl h4970))
      have k5040 : H5005 x 3 = H x 3 := ((f5010 x 3 _ gx rfl).trans (f4982 x 3 _ gx rfl))
      have q5041 : H5005 x 3 = (ce8 : Int) := k5040.trans ece8
      have h5042 : HDR T H5005 ce8  := (HDR_fr w4981 gce8 f5010 rfl (HDR_fr hW gce8 f4982 rfl hhdr8))
      have h5043 : RY T H5005 m (d8 0 3) g8 (H m 32) := (RY_fr w4981 gm f5010 rfl (RY_fr hW gm f4982 rfl h4971))
      have h5044 : RB T H5005 m e8 d8 := (RB_fr w4981 gm f5010 rfl h5001)
      exact WL.loc hX (by simp) (next T H5005 ⟨⟨w5009, g0, gx, gm, go, by omega, by omega⟩, ⟨_, tc, tm, cu, dr, _, _, _, _, _, ce8, q5023, gtc, h5031, q5025, gtm, h5032, q5027, gcu, q5029, gdr, h5033, h5034, h5035, h5036, h5037, hC1, hC2, h5038, h5044, (h5039).1, (h5043).1, hE, hZ, (by omega), (by assumption), (by omega), (by first | assumption | exact SG_0), q5041, gce8, h5030, h5042, a5015, gm⟩, by omega, by omega⟩ (by omega) (by omega))
    · exfalso
      omega
  · refine wl_of hX hb cL_1279 (rw_iconst (pc' := 1280) rfl ?_)
    refine wl_of hX hb cL_1280 (rw_goto (p1 := 1284) (by decide) ?_)
    obtain ⟨B, tc, tm, cu, dr, C8, e8, d8, n8, g8, ce8, e0, gtc, htc, em, gtm, htm, ecu, gcu, edr, gdr, hcu, hdr, hdec, hded, hsp, hC1, hC2, hcu8, hrb8, hcg8, hmn8, hE, hZ, hn8, hXA, hV8, hSG, ece8, gce8, hcen8, hhdr8, hknn8, -⟩ := hXI
    have hN3 := RB_n3 hrb8
    have hE13 : ∀ h : Nat, h < 24 → 0 ≤ e8 13 h ∧ e8 13 h ≤ 100 := fun k hk => by
      obtain ⟨s, h1, h2, h3⟩ := hcu8.1.2.2.1
      exact ⟨(h3 k hk).1, (h3 k hk).2.1⟩
    have hXW := hXA.1
    have hXN := hXA.2
    have hE0 : e8 0 3 = d8 0 3 ∧ e8 0 0 = d8 0 0 := by
      have h := hE 0 (by decide)
      exact ⟨congrFun h 3, congrFun h 0⟩
    have u5045 := CU_k hcu8
    have h5046 : CY T H cu (d8 0 3) g8 (H cu 17) := ⟨hcg8, rfl⟩
    have h5047 : RY T H m (d8 0 3) g8 (H m 32) := ⟨hmn8, rfl⟩
    obtain ⟨t9, ht9⟩ : ∃ t : Int, t = H x 9 := ⟨_, rfl⟩
    obtain ⟨y9, hy9⟩ : ∃ y : Int, y = 1 := ⟨_, rfl⟩
    obtain ⟨r5048, q5049, g5050⟩ := hW.ref gx (t' := 6) (n := 13) (j := 2) (p := 0) (q := 0) rfl (by decide) rfl
    refine wl_of hX hb cL_1284 (xc_V (pc' := 1287) (r := x) (as := [vI (H 0 ((i + 1).toNat)), vI 1]) (st := []) (lm_11_167) rfl rfl (Nat.le_of_ble_eq_true rfl) hW gx sh_1 (by decide) rfl (by decide) (u_146 (e := e8) (d := d8) (n := n8) hW gx ⟨by omega, by omega⟩ ⟨by decide, by decide⟩ ecu gcu q5049 g5050 ece8 gce8 (by assumption) (by assumption) (by omega) (by omega) (by omega) (by omega) hcu8 hcen8 hhdr8) (fun R5051 T5052 H5053 p5054 => ?_))
    obtain ⟨e5055, w5057, f5058, z5059, e5056, b5060, p5061⟩ := p5054
    subst e5055
    subst e5056
    show WL _ _ _ _ 1287 [(4, vI i), (3, .ref o), (2, .ref m), (1, .ref x), (0, .ref 0)] [vI z5059] _ H5053
    refine wl_of hX hb cL_1287 (rw_pop (pc' := 1288) rfl rfl ?_)
    refine wl_of hX hb cL_1288 (rw_aload_n (pc' := 1289) (v := .ref m) rfl rfl rfl ?_)
    refine wl_of hX hb cL_1289 (rw_aload_n (pc' := 1290) (v := .ref 0) rfl rfl rfl ?_)
    refine wl_of hX hb cL_1290 (rw_iload (pc' := 1292) (z := i) rfl rfl ?_)
    refine wl_of hX hb cL_1292 (rw_iconst (pc' := 1293) rfl ?_)
    refine wl_of hX hb cL_1293 (rw_iadd (pc' := 1294) rfl ?_)
    have k5065 : H5053 0 ((i + 1).toNat) = H 0 ((i + 1).toNat) := (f5058 0 ((i + 1).toNat) _ g0 (wmem_s rfl))
    refine wl_of hX hb cL_1294 (xa_I (so := 0) (pc' := 1295) (a := 0) w5057 g0 (wsh_s _) (by omega) (wty_s _ _) (by omega) (by omega) rfl (fun b5063 b5064 => ?_))
    refine wl_of hX hb cL_1295 (rw_aload_n (pc' := 1296) (v := .ref 0) rfl rfl rfl ?_)
    refine wl_of hX hb cL_1296 (rw_iload (pc' := 1298) (z := i) rfl rfl ?_)
    refine wl_of hX hb cL_1298 (rw_iconst (pc' := 1299) rfl ?_)
    refine wl_of hX hb cL_1299 (rw_iadd (pc' := 1300) rfl ?_)
    have k5068 : H5053 0 ((i + 2).toNat) = H 0 ((i + 2).toNat) := (f5058 0 ((i + 2).toNat) _ g0 (wmem_s rfl))
    refine wl_of hX hb cL_1300 (xa_I (so := 0) (pc' := 1301) (a := 0) w5057 g0 (wsh_s _) (by omega) (wty_s _ _) (by omega) (by omega) rfl (fun b5066 b5067 => ?_))
    refine wl_of hX hb cL_1301 (rw_if_eq (p1 := 1308) (p2 := 1304) (by decide) rfl ⟨by omega, by omega⟩ (fun c5069 => ?_) (fun c5069 => ?_))
    · refine wl_of hX hb cL_1308 (rw_iconst (pc' := 1309) rfl ?_)
      have k5070 : wKI H5053 m = wKI H m := (wKI_fr hW gm f5058 rfl)
      have k5071 : H5053 x 9 = H x 9 := (f5058 x 9 _ gx rfl)
      have k5072 : H5053 m 6 = H m 6 := (f5058 m 6 _ gm rfl)
      have k5073 : H5053 x 11 = H x 11 := (f5058 x 11 _ gx rfl)
      have k5074 : H5053 m 13 = H m 13 := (f5058 m 13 _ gm rfl)
      have k5075 : H5053 x 8 = H x 8 := (f5058 x 8 _ gx rfl)
      have k5076 : H5053 m 3 = H m 3 := (f5058 m 3 _ gm rfl)
      rw [show H5053 0 ((i + 1).toNat) = H 0 ((i + 1).toNat) by omega]
      have h5077 : RB T H5053 m e8 d8 := (RB_fr hW gm f5058 rfl hrb8)
      have h5078 : KNN T H5053 m e8 d8 := (KNN_fr hW gm f5058 rfl hknn8)
      refine wl_of hX hb cL_1309 (xc_V (pc' := 1312) (r := m) (as := [vI (H 0 ((i + 1).toNat)), vI 0]) (st := []) (lm_11_170) rfl rfl (Nat.le_of_ble_eq_true rfl) w5057 gm sh_42 (by decide) rfl (by decide) (u_279 (e := e8) (d := d8) w5057 gm ⟨by omega, by omega⟩ ⟨by decide, by decide⟩ (by omega) (by assumption) (by assumption) (by assumption) (by assumption) h5077 h5078) (fun R5079 T5080 H5081 p5082 => ?_))
      obtain ⟨e5083, w5085, f5086, z5087, e5084, b5088, p5089⟩ := p5082
      subst e5083
      subst e5084
      obtain ⟨a5090, a5091⟩ := p5089
      show WL _ _ _ _ 1312 [(4, vI i), (3, .ref o), (2, .ref m), (1, .ref x), (0, .ref 0)] [vI z5087] _ H5081
      refine wl_of hX hb cL_1312 (rw_pop (pc' := 1313) rfl rfl ?_)
      refine wl_of hX hb cL_1313 (rw_goto (p1 := 1653) (by decide) ?_)
      have k5092 : H5081 x 9 = H5053 x 9 := (f5086 x 9 _ gx rfl)
      have k5093 : H5081 m 6 = H5053 m 6 := (f5086 m 6 _ gm rfl)
      have k5094 : H5081 x 11 = H5053 x 11 := (f5086 x 11 _ gx rfl)
      have k5095 : H5081 m 13 = H5053 m 13 := (f5086 m 13 _ gm rfl)
      have k5096 : H5081 x 8 = H5053 x 8 := (f5086 x 8 _ gx rfl)
      have k5097 : H5081 m 3 = H5053 m 3 := (f5086 m 3 _ gm rfl)
      have k5098 : H5081 x 0 = H x 0 := ((f5086 x 0 _ gx rfl).trans (f5058 x 0 _ gx rfl))
      have q5099 : H5081 x 0 = (tc : Int) := k5098.trans e0
      have k5100 : H5081 m 5 = H m 5 := ((f5086 m 5 _ gm rfl).trans (f5058 m 5 _ gm rfl))
      have q5101 : H5081 m 5 = (tm : Int) := k5100.trans em
      have k5102 : H5081 x 6 = H x 6 := ((f5086 x 6 _ gx rfl).trans (f5058 x 6 _ gx rfl))
      have q5103 : H5081 x 6 = (cu : Int) := k5102.trans ecu
      have k5104 : H5081 x 7 = H x 7 := ((f5086 x 7 _ gx rfl).trans (f5058 x 7 _ gx rfl))
      have q5105 : H5081 x 7 = (dr : Int) := k5104.trans edr
      have h5106 : CEN T H5081 ce8 e8 d8 := (CEN_fr w5057 gce8 f5086 rfl p5061)
      have h5107 : TP T H5081 tc B := (TP_fr w5057 gtc f5086 rfl (TP_fr hW gtc f5058 rfl htc))
      have h5108 : TM T H5081 tm B := (TM_fr w5057 gtm f5086 rfl (TM_fr hW gtm f5058 rfl htm))
      have h5109 : DD T H5081 cu  := (DD_fr w5057 gcu f5086 rfl (DD_fr hW gcu f5058 rfl hcu))
      have h5110 : DD T H5081 dr  := (DD_fr w5057 gdr f5086 rfl (DD_fr hW gdr f5058 rfl hdr))
      have h5111 : DE T H5081 cu  := (DE_fr w5057 gcu f5086 rfl (DE_fr hW gcu f5058 rfl hdec))
      have h5112 : DE T H5081 dr  := (DE_fr w5057 gdr f5086 rfl (DE_fr hW gdr f5058 rfl hded))
      have h5113 : SP T H5081 x C8 := (SP_fr w5057 gx f5086 rfl (SP_fr hW gx f5058 rfl hsp))
      have h5114 : CU T H5081 cu e8 d8 n8 := (CU_fr w5057 gcu f5086 rfl (CU_fr hW gcu f5058 rfl hcu8))
      have h5115 : CY T H5081 cu (d8 0 3) g8 (H cu 17) := (CY_fr w5057 gcu f5086 rfl (CY_fr hW gcu f5058 rfl h5046))
      have k5116 : H5081 x 3 = H x 3 := ((f5086 x 3 _ gx rfl).trans (f5058 x 3 _ gx rfl))
      have q5117 : H5081 x 3 = (ce8 : Int) := k5116.trans ece8
      have h5118 : HDR T H5081 ce8  := (HDR_fr w5057 gce8 f5086 rfl (HDR_fr hW gce8 f5058 rfl hhdr8))
      have h5119 : RY T H5081 m (d8 0 3) g8 (H m 32) := (RY_fr w5057 gm f5086 rfl (RY_fr hW gm f5058 rfl h5047))
      have h5120 : RB T H5081 m e8 d8 := (RB_fr w5057 gm f5086 rfl h5077)
      exact WL.loc hX (by simp) (next T H5081 ⟨⟨w5085, g0, gx, gm, go, by omega, by omega⟩, ⟨_, tc, tm, cu, dr, _, _, _, _, _, ce8, q5099, gtc, h5107, q5101, gtm, h5108, q5103, gcu, q5105, gdr, h5109, h5110, h5111, h5112, h5113, hC1, hC2, h5114, h5120, (h5115).1, (h5119).1, hE, hZ, (by omega), (by assumption), (by omega), (by first | assumption | exact SG_0), q5117, gce8, h5106, h5118, a5091, gm⟩, by omega, by omega⟩ (by omega) (by omega))
    · refine wl_of hX hb cL_1304 (rw_iconst (pc' := 1305) rfl ?_)
      refine wl_of hX hb cL_1305 (rw_goto (p1 := 1309) (by decide) ?_)
      have k5121 : wKI H5053 m = wKI H m := (wKI_fr hW gm f5058 rfl)
      have k5122 : H5053 x 9 = H x 9 := (f5058 x 9 _ gx rfl)
      have k5123 : H5053 m 6 = H m 6 := (f5058 m 6 _ gm rfl)
      have k5124 : H5053 x 11 = H x 11 := (f5058 x 11 _ gx rfl)
      have k5125 : H5053 m 13 = H m 13 := (f5058 m 13 _ gm rfl)
      have k5126 : H5053 x 8 = H x 8 := (f5058 x 8 _ gx rfl)
      have k5127 : H5053 m 3 = H m 3 := (f5058 m 3 _ gm rfl)
      rw [show H5053 0 ((i + 1).toNat) = H 0 ((i + 1).toNat) by omega]
      have h5128 : RB T H5053 m e8 d8 := (RB_fr hW gm f5058 rfl hrb8)
      have h5129 : KNN T H5053 m e8 d8 := (KNN_fr hW gm f5058 rfl hknn8)
      refine wl_of hX hb cL_1309 (xc_V (pc' := 1312) (r := m) (as := [vI (H 0 ((i + 1).toNat)), vI 1]) (st := []) (lm_11_170) rfl rfl (Nat.le_of_ble_eq_true rfl) w5057 gm sh_42 (by decide) rfl (by decide) (u_279 (e := e8) (d := d8) w5057 gm ⟨by omega, by omega⟩ ⟨by decide, by decide⟩ (by omega) (by assumption) (by assumption) (by assumption) (by assumption) h5128 h5129) (fun R5130 T5131 H5132 p5133 => ?_))
      obtain ⟨e5134, w5136, f5137, z5138, e5135, b5139, p5140⟩ := p5133
      subst e5134
      subst e5135
      obtain ⟨a5141, a5142⟩ := p5140
      show WL _ _ _ _ 1312 [(4, vI i), (3, .ref o), (2, .ref m), (1, .ref x), (0, .ref 0)] [vI z5138] _ H5132
      refine wl_of hX hb cL_1312 (rw_pop (pc' := 1313) rfl rfl ?_)
      refine wl_of hX hb cL_1313 (rw_goto (p1 := 1653) (by decide) ?_)
      have k5143 : H5132 x 9 = H5053 x 9 := (f5137 x 9 _ gx rfl)
      have k5144 : H5132 m 6 = H5053 m 6 := (f5137 m 6 _ gm rfl)
      have k5145 : H5132 x 11 = H5053 x 11 := (f5137 x 11 _ gx rfl)
      have k5146 : H5132 m 13 = H5053 m 13 := (f5137 m 13 _ gm rfl)
      have k5147 : H5132 x 8 = H5053 x 8 := (f5137 x 8 _ gx rfl)
      have k5148 : H5132 m 3 = H5053 m 3 := (f5137 m 3 _ gm rfl)
      have k5149 : H5132 x 0 = H x 0 := ((f5137 x 0 _ gx rfl).trans (f5058 x 0 _ gx rfl))
      have q5150 : H5132 x 0 = (tc : Int) := k5149.trans e0
      have k5151 : H5132 m 5 = H m 5 := ((f5137 m 5 _ gm rfl).trans (f5058 m 5 _ gm rfl))
      have q5152 : H5132 m 5 = (tm : Int) := k5151.trans em
      have k5153 : H5132 x 6 = H x 6 := ((f5137 x 6 _ gx rfl).trans (f5058 x 6 _ gx rfl))
      have q5154 : H5132 x 6 = (cu : Int) := k5153.trans ecu
      have k5155 : H5132 x 7 = H x 7 := ((f5137 x 7 _ gx rfl).trans (f5058 x 7 _ gx rfl))
      have q5156 : H5132 x 7 = (dr : Int) := k5155.trans edr
      have h5157 : CEN T H5132 ce8 e8 d8 := (CEN_fr w5057 gce8 f5137 rfl p5061)
      have h5158 : TP T H5132 tc B := (TP_fr w5057 gtc f5137 rfl (TP_fr hW gtc f5058 rfl htc))
      have h5159 : TM T H5132 tm B := (TM_fr w5057 gtm f5137 rfl (TM_fr hW gtm f5058 rfl htm))
      have h5160 : DD T H5132 cu  := (DD_fr w5057 gcu f5137 rfl (DD_fr hW gcu f5058 rfl hcu))
      have h5161 : DD T H5132 dr  := (DD_fr w5057 gdr f5137 rfl (DD_fr hW gdr f5058 rfl hdr))
      have h5162 : DE T H5132 cu  := (DE_fr w5057 gcu f5137 rfl (DE_fr hW gcu f5058 rfl hdec))
      have h5163 : DE T H5132 dr  := (DE_fr w5057 gdr f5137 rfl (DE_fr hW gdr f5058 rfl hded))
      have h5164 : SP T H5132 x C8 := (SP_fr w5057 gx f5137 rfl (SP_fr hW gx f5058 rfl hsp))
      have h5165 : CU T H5132 cu e8 d8 n8 := (CU_fr w5057 gcu f5137 rfl (CU_fr hW gcu f5058 rfl hcu8))
      have h5166 : CY T H5132 cu (d8 0 3) g8 (H cu 17) := (CY_fr w5057 gcu f5137 rfl (CY_fr hW gcu f5058 rfl h5046))
      have k5167 : H5132 x 3 = H x 3 := ((f5137 x 3 _ gx rfl).trans (f5058 x 3 _ gx rfl))
      have q5168 : H5132 x 3 = (ce8 : Int) := k5167.trans ece8
      have h5169 : HDR T H5132 ce8  := (HDR_fr w5057 gce8 f5137 rfl (HDR_fr hW gce8 f5058 rfl hhdr8))
      have h5170 : RY T H5132 m (d8 0 3) g8 (H m 32) := (RY_fr w5057 gm f5137 rfl (RY_fr hW gm f5058 rfl h5047))
      have h5171 : RB T H5132 m e8 d8 := (RB_fr w5057 gm f5137 rfl h5128)
      exact WL.loc hX (by simp) (next T H5132 ⟨⟨w5136, g0, gx, gm, go, by omega, by omega⟩, ⟨_, tc, tm, cu, dr, _, _, _, _, _, ce8, q5150, gtc, h5158, q5152, gtm, h5159, q5154, gcu, q5156, gdr, h5160, h5161, h5162, h5163, h5164, hC1, hC2, h5165, h5171, (h5166).1, (h5170).1, hE, hZ, (by omega), (by assumption), (by omega), (by first | assumption | exact SG_0), q5168, gce8, h5157, h5169, a5142, gm⟩, by omega, by omega⟩ (by omega) (by omega))
