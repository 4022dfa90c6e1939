/-! THE LAW, GONE ON WITH (own work) -/
set_option maxHeartbeats 4000000 in
theorem wl_c29 {kt : Nat → Option mc_E} {CB SB : Nat} {X : mc_S → Prop} {T : wq_T} {H : wq_H} {Len x m o : Nat} {i : Int} (hX : wlX kt CB SB X) (hb : T.2.1 ≤ CB ∧ T.2.2.1 ≤ SB) (hI : wlJ Len x m o T H) (hL : Len ≤ 3072) (hi : 0 ≤ i ∧ i + 6 ≤ Len) (hb2 : T.2.1 + 20 ≤ CB ∧ T.2.2.1 + 500 ≤ SB)  (next : ∀ T' H', wlJ Len x m o T' H' → T'.2.1 ≤ T.2.1 + 20 → T'.2.2.1 ≤ T.2.2.1 + 500 → WL kt CB SB X 1653 (wlL i x m o) [] T' H') : WL kt CB SB X 1109 (wlL i x m o) [] T H := by
  obtain ⟨⟨hW, g0, gx, gm, go, hK, hr⟩, hXI, hY1, hY2⟩ := hI
  refine wl_of hX hb cL_1109 (rw_aload_n (pc' := 1110) (v := .ref x) rfl rfl rfl ?_)
  refine wl_of hX hb cL_1110 (rw_aload_n (pc' := 1111) (v := .ref 0) rfl rfl rfl ?_)
  refine wl_of hX hb cL_1111 (rw_iload (pc' := 1113) (z := i) rfl rfl ?_)
  refine wl_of hX hb cL_1113 (rw_iconst (pc' := 1114) rfl ?_)
  refine wl_of hX hb cL_1114 (rw_iadd (pc' := 1115) rfl ?_)
  refine wl_of hX hb cL_1115 (xa_I (so := 0) (pc' := 1116) (a := 0) hW g0 (wsh_s _) (by omega) (wty_s _ _) (by omega) (by omega) rfl (fun b4399 b4400 => ?_))
  refine wl_of hX hb cL_1116 (rw_aload_n (pc' := 1117) (v := .ref 0) rfl rfl rfl ?_)
  refine wl_of hX hb cL_1117 (rw_iload (pc' := 1119) (z := i) rfl rfl ?_)
  refine wl_of hX hb cL_1119 (rw_iconst (pc' := 1120) rfl ?_)
  refine wl_of hX hb cL_1120 (rw_iadd (pc' := 1121) rfl ?_)
  refine wl_of hX hb cL_1121 (xa_I (so := 0) (pc' := 1122) (a := 0) hW g0 (wsh_s _) (by omega) (wty_s _ _) (by omega) (by omega) rfl (fun b4401 b4402 => ?_))
  refine wl_of hX hb cL_1122 (rw_if_eq (p1 := 1129) (p2 := 1125) (by decide) rfl ⟨by omega, by omega⟩ (fun c4403 => ?_) (fun c4403 => ?_))
  · refine wl_of hX hb cL_1129 (rw_iconst (pc' := 1130) rfl ?_)
    obtain ⟨B, tc, tm, cu, dr, C8, e8, d8, n8, g8, ce8, e0, gtc, htc, em, gtm, htm, ecu, gcu, edr, gdr, hcu, hdr, hdec, hded, hsp, hC1, hC2, hcu8, hrb8, hcg8, hmn8, hE, hZ, hn8, hXA, hV8, hSG, ece8, gce8, hcen8, hhdr8, hknn8, -⟩ := hXI
    have hN3 := RB_n3 hrb8
    have hE13 : ∀ h : Nat, h < 24 → 0 ≤ e8 13 h ∧ e8 13 h ≤ 100 := fun k hk => by
      obtain ⟨s, h1, h2, h3⟩ := hcu8.1.2.2.1
      exact ⟨(h3 k hk).1, (h3 k hk).2.1⟩
    have hXW := hXA.1
    have hXN := hXA.2
    have hE0 : e8 0 3 = d8 0 3 ∧ e8 0 0 = d8 0 0 := by
      have h := hE 0 (by decide)
      exact ⟨congrFun h 3, congrFun h 0⟩
    have u4404 := CU_k hcu8
    have h4405 : CY T H cu (d8 0 3) g8 (H cu 17) := ⟨hcg8, rfl⟩
    have h4406 : RY T H m (d8 0 3) g8 (H m 32) := ⟨hmn8, rfl⟩
    obtain ⟨t9, ht9⟩ : ∃ t : Int, t = H x 9 := ⟨_, rfl⟩
    obtain ⟨y9, hy9⟩ : ∃ y : Int, y = 0 := ⟨_, rfl⟩
    obtain ⟨r4407, q4408, g4409⟩ := hW.ref gx (t' := 6) (n := 13) (j := 2) (p := 0) (q := 0) rfl (by decide) rfl
    refine wl_of hX hb cL_1130 (xc_V (pc' := 1133) (r := x) (as := [vI (H 0 ((i + 1).toNat)), vI 0]) (st := []) (lm_11_143) rfl rfl (Nat.le_of_ble_eq_true rfl) hW gx sh_1 (by decide) rfl (by decide) (u_119 (e := e8) (d := d8) (n := n8) hW gx ⟨by omega, by omega⟩ ⟨by decide, by decide⟩ ecu gcu q4408 g4409 ece8 gce8 (by assumption) (by assumption) (by omega) (by omega) (by omega) (by omega) hcu8 hcen8 hhdr8) (fun R4410 T4411 H4412 p4413 => ?_))
    obtain ⟨e4414, w4416, f4417, z4418, e4415, b4419, p4420⟩ := p4413
    subst e4414
    subst e4415
    show WL _ _ _ _ 1133 [(4, vI i), (3, .ref o), (2, .ref m), (1, .ref x), (0, .ref 0)] [vI z4418] _ H4412
    refine wl_of hX hb cL_1133 (rw_pop (pc' := 1134) rfl rfl ?_)
    refine wl_of hX hb cL_1134 (rw_aload_n (pc' := 1135) (v := .ref m) rfl rfl rfl ?_)
    refine wl_of hX hb cL_1135 (rw_aload_n (pc' := 1136) (v := .ref 0) rfl rfl rfl ?_)
    refine wl_of hX hb cL_1136 (rw_iload (pc' := 1138) (z := i) rfl rfl ?_)
    refine wl_of hX hb cL_1138 (rw_iconst (pc' := 1139) rfl ?_)
    refine wl_of hX hb cL_1139 (rw_iadd (pc' := 1140) rfl ?_)
    have k4424 : H4412 0 ((i + 1).toNat) = H 0 ((i + 1).toNat) := (f4417 0 ((i + 1).toNat) _ g0 (wmem_s rfl))
    refine wl_of hX hb cL_1140 (xa_I (so := 0) (pc' := 1141) (a := 0) w4416 g0 (wsh_s _) (by omega) (wty_s _ _) (by omega) (by omega) rfl (fun b4422 b4423 => ?_))
    refine wl_of hX hb cL_1141 (rw_aload_n (pc' := 1142) (v := .ref 0) rfl rfl rfl ?_)
    refine wl_of hX hb cL_1142 (rw_iload (pc' := 1144) (z := i) rfl rfl ?_)
    refine wl_of hX hb cL_1144 (rw_iconst (pc' := 1145) rfl ?_)
    refine wl_of hX hb cL_1145 (rw_iadd (pc' := 1146) rfl ?_)
    have k4427 : H4412 0 ((i + 2).toNat) = H 0 ((i + 2).toNat) := (f4417 0 ((i + 2).toNat) _ g0 (wmem_s rfl))
    refine wl_of hX hb cL_1146 (xa_I (so := 0) (pc' := 1147) (a := 0) w4416 g0 (wsh_s _) (by omega) (wty_s _ _) (by omega) (by omega) rfl (fun b4425 b4426 => ?_))
    refine wl_of hX hb cL_1147 (rw_if_eq (p1 := 1154) (p2 := 1150) (by decide) rfl ⟨by omega, by omega⟩ (fun c4428 => ?_) (fun c4428 => ?_))
    · refine wl_of hX hb cL_1154 (rw_iconst (pc' := 1155) rfl ?_)
      have k4429 : wKI H4412 m = wKI H m := (wKI_fr hW gm f4417 rfl)
      have k4430 : H4412 x 9 = H x 9 := (f4417 x 9 _ gx rfl)
      have k4431 : H4412 m 6 = H m 6 := (f4417 m 6 _ gm rfl)
      have k4432 : H4412 x 11 = H x 11 := (f4417 x 11 _ gx rfl)
      have k4433 : H4412 m 13 = H m 13 := (f4417 m 13 _ gm rfl)
      have k4434 : H4412 x 8 = H x 8 := (f4417 x 8 _ gx rfl)
      have k4435 : H4412 m 3 = H m 3 := (f4417 m 3 _ gm rfl)
      rw [show H4412 0 ((i + 1).toNat) = H 0 ((i + 1).toNat) by omega]
      have h4436 : RB T H4412 m e8 d8 := (RB_fr hW gm f4417 rfl hrb8)
      have h4437 : KNN T H4412 m e8 d8 := (KNN_fr hW gm f4417 rfl hknn8)
      refine wl_of hX hb cL_1155 (xc_V (pc' := 1158) (r := m) (as := [vI (H 0 ((i + 1).toNat)), vI 0]) (st := []) (lm_11_146) rfl rfl (Nat.le_of_ble_eq_true rfl) w4416 gm sh_42 (by decide) rfl (by decide) (u_265 (e := e8) (d := d8) w4416 gm ⟨by omega, by omega⟩ ⟨by decide, by decide⟩ (by omega) (by assumption) (by assumption) (by assumption) (by assumption) h4436 h4437) (fun R4438 T4439 H4440 p4441 => ?_))
      obtain ⟨e4442, w4444, f4445, z4446, e4443, b4447, p4448⟩ := p4441
      subst e4442
      subst e4443
      obtain ⟨a4449, a4450⟩ := p4448
      show WL _ _ _ _ 1158 [(4, vI i), (3, .ref o), (2, .ref m), (1, .ref x), (0, .ref 0)] [vI z4446] _ H4440
      refine wl_of hX hb cL_1158 (rw_pop (pc' := 1159) rfl rfl ?_)
      refine wl_of hX hb cL_1159 (rw_goto (p1 := 1653) (by decide) ?_)
      have k4451 : H4440 x 9 = H4412 x 9 := (f4445 x 9 _ gx rfl)
      have k4452 : H4440 m 6 = H4412 m 6 := (f4445 m 6 _ gm rfl)
      have k4453 : H4440 x 11 = H4412 x 11 := (f4445 x 11 _ gx rfl)
      have k4454 : H4440 m 13 = H4412 m 13 := (f4445 m 13 _ gm rfl)
      have k4455 : H4440 x 8 = H4412 x 8 := (f4445 x 8 _ gx rfl)
      have k4456 : H4440 m 3 = H4412 m 3 := (f4445 m 3 _ gm rfl)
      have k4457 : H4440 x 0 = H x 0 := ((f4445 x 0 _ gx rfl).trans (f4417 x 0 _ gx rfl))
      have q4458 : H4440 x 0 = (tc : Int) := k4457.trans e0
      have k4459 : H4440 m 5 = H m 5 := ((f4445 m 5 _ gm rfl).trans (f4417 m 5 _ gm rfl))
      have q4460 : H4440 m 5 = (tm : Int) := k4459.trans em
      have k4461 : H4440 x 6 = H x 6 := ((f4445 x 6 _ gx rfl).trans (f4417 x 6 _ gx rfl))
      have q4462 : H4440 x 6 = (cu : Int) := k4461.trans ecu
      have k4463 : H4440 x 7 = H x 7 := ((f4445 x 7 _ gx rfl).trans (f4417 x 7 _ gx rfl))
      have q4464 : H4440 x 7 = (dr : Int) := k4463.trans edr
      have h4465 : CEN T H4440 ce8 e8 d8 := (CEN_fr w4416 gce8 f4445 rfl p4420)
      have h4466 : TP T H4440 tc B := (TP_fr w4416 gtc f4445 rfl (TP_fr hW gtc f4417 rfl htc))
      have h4467 : TM T H4440 tm B := (TM_fr w4416 gtm f4445 rfl (TM_fr hW gtm f4417 rfl htm))
      have h4468 : DD T H4440 cu  := (DD_fr w4416 gcu f4445 rfl (DD_fr hW gcu f4417 rfl hcu))
      have h4469 : DD T H4440 dr  := (DD_fr w4416 gdr f4445 rfl (DD_fr hW gdr f4417 rfl hdr))
      have h4470 : DE T H4440 cu  := (DE_fr w4416 gcu f4445 rfl (DE_fr hW gcu f4417 rfl hdec))
      have h4471 : DE T H4440 dr  := (DE_fr w4416 gdr f4445 rfl (DE_fr hW gdr f4417 rfl hded))
      have h4472 : SP T H4440 x C8 := (SP_fr w4416 gx f4445 rfl (SP_fr hW gx f4417 rfl hsp))
      have h4473 : CU T H4440 cu e8 d8 n8 := (CU_fr w4416 gcu f4445 rfl (CU_fr hW gcu f4417 rfl hcu8))
      have h4474 : CY T H4440 cu (d8 0 3) g8 (H cu 17) := (CY_fr w4416 gcu f4445 rfl (CY_fr hW gcu f4417 rfl h4405))
      have k4475 : H4440 x 3 = H x 3 := ((f4445 x 3 _ gx rfl).trans (f4417 x 3 _ gx rfl))
      have q4476 : H4440 x 3 = (ce8 : Int) := k4475.trans ece8
      have h4477 : HDR T H4440 ce8  := (HDR_fr w4416 gce8 f4445 rfl (HDR_fr hW gce8 f4417 rfl hhdr8))
      have h4478 : RY T H4440 m (d8 0 3) g8 (H m 32) := (RY_fr w4416 gm f4445 rfl (RY_fr hW gm f4417 rfl h4406))
      have h4479 : RB T H4440 m e8 d8 := (RB_fr w4416 gm f4445 rfl h4436)
      exact WL.loc hX (by simp) (next T H4440 ⟨⟨w4444, g0, gx, gm, go, by omega, by omega⟩, ⟨_, tc, tm, cu, dr, _, _, _, _, _, ce8, q4458, gtc, h4466, q4460, gtm, h4467, q4462, gcu, q4464, gdr, h4468, h4469, h4470, h4471, h4472, hC1, hC2, h4473, h4479, (h4474).1, (h4478).1, hE, hZ, (by omega), (by assumption), (by omega), (by first | assumption | exact SG_0), q4476, gce8, h4465, h4477, a4450, gm⟩, by omega, by omega⟩ (by omega) (by omega))
    · exfalso
      omega
  · refine wl_of hX hb cL_1125 (rw_iconst (pc' := 1126) rfl ?_)
    refine wl_of hX hb cL_1126 (rw_goto (p1 := 1130) (by decide) ?_)
    obtain ⟨B, tc, tm, cu, dr, C8, e8, d8, n8, g8, ce8, e0, gtc, htc, em, gtm, htm, ecu, gcu, edr, gdr, hcu, hdr, hdec, hded, hsp, hC1, hC2, hcu8, hrb8, hcg8, hmn8, hE, hZ, hn8, hXA, hV8, hSG, ece8, gce8, hcen8, hhdr8, hknn8, -⟩ := hXI
    have hN3 := RB_n3 hrb8
    have hE13 : ∀ h : Nat, h < 24 → 0 ≤ e8 13 h ∧ e8 13 h ≤ 100 := fun k hk => by
      obtain ⟨s, h1, h2, h3⟩ := hcu8.1.2.2.1
      exact ⟨(h3 k hk).1, (h3 k hk).2.1⟩
    have hXW := hXA.1
    have hXN := hXA.2
    have hE0 : e8 0 3 = d8 0 3 ∧ e8 0 0 = d8 0 0 := by
      have h := hE 0 (by decide)
      exact ⟨congrFun h 3, congrFun h 0⟩
    have u4480 := CU_k hcu8
    have h4481 : CY T H cu (d8 0 3) g8 (H cu 17) := ⟨hcg8, rfl⟩
    have h4482 : RY T H m (d8 0 3) g8 (H m 32) := ⟨hmn8, rfl⟩
    obtain ⟨t9, ht9⟩ : ∃ t : Int, t = H x 9 := ⟨_, rfl⟩
    obtain ⟨y9, hy9⟩ : ∃ y : Int, y = 1 := ⟨_, rfl⟩
    obtain ⟨r4483, q4484, g4485⟩ := hW.ref gx (t' := 6) (n := 13) (j := 2) (p := 0) (q := 0) rfl (by decide) rfl
    refine wl_of hX hb cL_1130 (xc_V (pc' := 1133) (r := x) (as := [vI (H 0 ((i + 1).toNat)), vI 1]) (st := []) (lm_11_143) rfl rfl (Nat.le_of_ble_eq_true rfl) hW gx sh_1 (by decide) rfl (by decide) (u_119 (e := e8) (d := d8) (n := n8) hW gx ⟨by omega, by omega⟩ ⟨by decide, by decide⟩ ecu gcu q4484 g4485 ece8 gce8 (by assumption) (by assumption) (by omega) (by omega) (by omega) (by omega) hcu8 hcen8 hhdr8) (fun R4486 T4487 H4488 p4489 => ?_))
    obtain ⟨e4490, w4492, f4493, z4494, e4491, b4495, p4496⟩ := p4489
    subst e4490
    subst e4491
    show WL _ _ _ _ 1133 [(4, vI i), (3, .ref o), (2, .ref m), (1, .ref x), (0, .ref 0)] [vI z4494] _ H4488
    refine wl_of hX hb cL_1133 (rw_pop (pc' := 1134) rfl rfl ?_)
    refine wl_of hX hb cL_1134 (rw_aload_n (pc' := 1135) (v := .ref m) rfl rfl rfl ?_)
    refine wl_of hX hb cL_1135 (rw_aload_n (pc' := 1136) (v := .ref 0) rfl rfl rfl ?_)
    refine wl_of hX hb cL_1136 (rw_iload (pc' := 1138) (z := i) rfl rfl ?_)
    refine wl_of hX hb cL_1138 (rw_iconst (pc' := 1139) rfl ?_)
    refine wl_of hX hb cL_1139 (rw_iadd (pc' := 1140) rfl ?_)
    have k4500 : H4488 0 ((i + 1).toNat) = H 0 ((i + 1).toNat) := (f4493 0 ((i + 1).toNat) _ g0 (wmem_s rfl))
    refine wl_of hX hb cL_1140 (xa_I (so := 0) (pc' := 1141) (a := 0) w4492 g0 (wsh_s _) (by omega) (wty_s _ _) (by omega) (by omega) rfl (fun b4498 b4499 => ?_))
    refine wl_of hX hb cL_1141 (rw_aload_n (pc' := 1142) (v := .ref 0) rfl rfl rfl ?_)
    refine wl_of hX hb cL_1142 (rw_iload (pc' := 1144) (z := i) rfl rfl ?_)
    refine wl_of hX hb cL_1144 (rw_iconst (pc' := 1145) rfl ?_)
    refine wl_of hX hb cL_1145 (rw_iadd (pc' := 1146) rfl ?_)
    have k4503 : H4488 0 ((i + 2).toNat) = H 0 ((i + 2).toNat) := (f4493 0 ((i + 2).toNat) _ g0 (wmem_s rfl))
    refine wl_of hX hb cL_1146 (xa_I (so := 0) (pc' := 1147) (a := 0) w4492 g0 (wsh_s _) (by omega) (wty_s _ _) (by omega) (by omega) rfl (fun b4501 b4502 => ?_))
    refine wl_of hX hb cL_1147 (rw_if_eq (p1 := 1154) (p2 := 1150) (by decide) rfl ⟨by omega, by omega⟩ (fun c4504 => ?_) (fun c4504 => ?_))
    · refine wl_of hX hb cL_1154 (rw_iconst (pc' := 1155) rfl ?_)
      have k4505 : wKI H4488 m = wKI H m := (wKI_fr hW gm f4493 rfl)
      have k4506 : H4488 x 9 = H x 9 := (f4493 x 9 _ gx rfl)
      have k4507 : H4488 m 6 = H m 6 := (f4493 m 6 _ gm rfl)
      have k4508 : H4488 x 11 = H x 11 := (f4493 x 11 _ gx rfl)
      have k4509 : H4488 m 13 = H m 13 := (f4493 m 13 _ gm rfl)
      have k4510 : H4488 x 8 = H x 8 := (f4493 x 8 _ gx rfl)
      have k4511 : H4488 m 3 = H m 3 := (f4493 m 3 _ gm rfl)
      rw [show H4488 0 ((i + 1).toNat) = H 0 ((i + 1).toNat) by omega]
      have h4512 : RB T H4488 m e8 d8 := (RB_fr hW gm f4493 rfl hrb8)
      have h4513 : KNN T H4488 m e8 d8 := (KNN_fr hW gm f4493 rfl hknn8)
      refine wl_of hX hb cL_1155 (xc_V (pc' := 1158) (r := m) (as := [vI (H 0 ((i + 1).toNat)), vI 0]) (st := []) (lm_11_146) rfl rfl (Nat.le_of_ble_eq_true rfl) w4492 gm sh_42 (by decide) rfl (by decide) (u_265 (e := e8) (d := d8) w4492 gm ⟨by omega, by omega⟩ ⟨by decide, by decide⟩ (by omega) (by assumption) (by assumption) (by assumption) (by assumption) h4512 h4513) (fun R4514 T4515 H4516 p4517 => ?_))
      obtain ⟨e4518, w4520, f4521, z4522, e4519, b4523, p4524⟩ := p4517
      subst e4518
      subst e4519
      obtain ⟨a4525, a4526⟩ := p4524
      show WL _ _ _ _ 1158 [(4, vI i), (3, .ref o), (2, .ref m), (1, .ref x), (0, .ref 0)] [vI z4522] _ H4516
      refine wl_of hX hb cL_1158 (rw_pop (pc' := 1159) rfl rfl ?_)
      refine wl_of hX hb cL_1159 (rw_goto (p1 := 1653) (by decide) ?_)
      have k4527 : H4516 x 9 = H4488 x 9 := (f4521 x 9 _ gx rfl)
      have k4528 : H4516 m 6 = H4488 m 6 := (f4521 m 6 _ gm rfl)
      have k4529 : H4516 x 11 = H4488 x 11 := (f4521 x 11 _ gx rfl)
      have k4530 : H4516 m 13 = H4488 m 13 := (f4521 m 13 _ gm rfl)
      have k4531 : H4516 x 8 = H4488 x 8 := (f4521 x 8 _ gx rfl)
      have k4532 : H4516 m 3 = H4488 m 3 := (f4521 m 3 _ gm rfl)
      have k4533 : H4516 x 0 = H x 0 := ((f4521 x 0 _ gx rfl).trans (f4493 x 0 _ gx rfl))
      have q4534 : H4516 x 0 = (tc : Int) := k4533.trans e0
      have k4535 : H4516 m 5 = H m 5 := ((f4521 m 5 _ gm rfl).trans (f4493 m 5 _ gm rfl))
      have q4536 : H4516 m 5 = (tm : Int) := k4535.trans em
      have k4537 : H4516 x 6 = H x 6 := ((f4521 x 6 _ gx rfl).trans (f4493 x 6 _ gx rfl))
      have q4538 : H4516 x 6 = (cu : Int) := k4537.trans ecu
      have k4539 : H4516 x 7 = H x 7 := ((f4521 x 7 _ gx rfl).trans (f4493 x 7 _ gx rfl))
      have q4540 : H4516 x 7 = (dr : Int) := k4539.trans edr
      have h4541 : CEN T H4516 ce8 e8 d8 := (CEN_fr w4492 gce8 f4521 rfl p4496)
      have h4542 : TP T H4516 tc B := (TP_fr w4492 gtc f4521 rfl (TP_fr hW gtc f4493 rfl htc))
      have h4543 : TM T H4516 tm B := (TM_fr w4492 gtm f4521 rfl (TM_fr hW gtm f4493 rfl htm))
      have h4544 : DD T H4516 cu  := (DD_fr w4492 gcu f4521 rfl (DD_fr hW gcu f4493 rfl hcu))
      have h4545 : DD T H4516 dr  := (DD_fr w4492 gdr f4521 rfl (DD_fr hW gdr f4493 rfl hdr))
      have h4546 : DE T H4516 cu  := (DE_fr w4492 gcu f4521 rfl (DE_fr hW gcu f4493 rfl hdec))
      have h4547 : DE T H4516 dr  := (DE_fr w4492 gdr f4521 rfl (DE_fr hW gdr f4493 rfl hded))
      have h4548 : SP T H4516 x C8 := (SP_fr w4492 gx f4521 rfl (SP_fr hW gx f4493 rfl hsp))
      have h4549 : CU T H4516 cu e8 d8 n8 := (CU_fr w4492 gcu f4521 rfl (CU_fr hW gcu f4493 rfl hcu8))
      have h4550 : CY T H4516 cu (d8 0 3) g8 (H cu 17) := (CY_fr w4492 gcu f4521 rfl (CY_fr hW gcu f4493 rfl h4481))
      have k4551 : H4516 x 3 = H x 3 := ((f4521 x 3 _ gx rfl).trans (f4493 x 3 _ gx rfl))
      have q4552 : H4516 x 3 = (ce8 : Int) := k4551.trans ece8
      have h4553 : HDR T H4516 ce8  := (HDR_fr w4492 gce8 f4521 rfl (HDR_fr hW gce8 f4493 rfl hhdr8))
      have h4554 : RY T H4516 m (d8 0 3) g8 (H m 32) := (RY_fr w4492 gm f4521 rfl (RY_fr hW gm f4493 rfl h4482))
      have h4555 : RB T H4516 m e8 d8 := (RB_fr w4492 gm f4521 rfl h4512)
      exact WL.loc hX (by simp) (next T H4516 ⟨⟨w4520, g0, gx, gm, go, by omega, by omega⟩, ⟨_, tc, tm, cu, dr, _, _, _, _, _, ce8, q4534, gtc, h4542, q4536, gtm, h4543, q4538, gcu, q4540, gdr, h4544, h4545, h4546, h4547, h4548, hC1, hC2, h4549, h4555, (h4550).1, (h4554).1, hE, hZ, (by omega), (by assumption), (by omega), (by first | assumption | exact SG_0), q4552, gce8, h4541, h4553, a4526, gm⟩, by omega, by omega⟩ (by omega) (by omega))
    · refine wl_of hX hb cL_1150 (rw_iconst (pc' := 1151) rfl ?_)
      refine wl_of hX hb cL_1151 (rw_goto (p1 := 1155) (by decide) ?_)
      have k4556 : wKI H4488 m = wKI H m := (wKI_fr hW gm f4493 rfl)
      have k4557 : H4488 x 9 = H x 9 := (f4493 x 9 _ gx rfl)
      have k4558 : H4488 m 6 = H m 6 := (f4493 m 6 _ gm rfl)
      have k4559 : H4488 x 11 = H x 11 := (f4493 x 11 _ gx rfl)
      have k4560 : H4488 m 13 = H m 13 := (f4493 m 13 _ gm rfl)
      have k4561 : H4488 x 8 = H x 8 := (f4493 x 8 _ gx rfl)
      have k4562 : H4488 m 3 = H m 3 := (f4493 m 3 _ gm rfl)
      rw [show H4488 0 ((i + 1).toNat) = H 0 ((i + 1).toNat) by omega]
      have h4563 : RB T H4488 m e8 d8 := (RB_fr hW gm f4493 rfl hrb8)
      have h4564 : KNN T H4488 m e8 d8 := (KNN_fr hW gm f4493 rfl hknn8)
      refine wl_of hX hb cL_1155 (xc_V (pc' := 1158) (r := m) (as := [vI (H 0 ((i + 1).toNat)), vI 1]) (st := []) (lm_11_146) rfl rfl (Nat.le_of_ble_eq_true rfl) w4492 gm sh_42 (by decide) rfl (by decide) (u_265 (e := e8) (d := d8) w4492 gm ⟨by omega, by omega⟩ ⟨by decide, by decide⟩ (by omega) (by assumption) (by assumption) (by assumption) (by assumption) h4563 h4564) (fun R4565 T4566 H4567 p4568 => ?_))
      obtain ⟨e4569, w4571, f4572, z4573, e4570, b4574, p4575⟩ := p4568
      subst e4569
      subst e4570
      obtain ⟨a4576, a4577⟩ := p4575
      show WL _ _ _ _ 1158 [(4, vI i), (3, .ref o), (2, .ref m), (1, .ref x), (0, .ref 0)] [vI z4573] _ H4567
      refine wl_of hX hb cL_1158 (rw_pop (pc' := 1159) rfl rfl ?_)
      refine wl_of hX hb cL_1159 (rw_goto (p1 := 1653) (by decide) ?_)
      have k4578 : H4567 x 9 = H4488 x 9 := (f4572 x 9 _ gx rfl)
      have k4579 : H4567 m 6 = H4488 m 6 := (f4572 m 6 _ gm rfl)
      have k4580 : H4567 x 11 = H4488 x 11 := (f4572 x 11 _ gx rfl)
      have k4581 : H4567 m 13 = H4488 m 13 := (f4572 m 13 _ gm rfl)
      have k4582 : H4567 x 8 = H4488 x 8 := (f4572 x 8 _ gx rfl)
      have k4583 : H4567 m 3 = H4488 m 3 := (f4572 m 3 _ gm rfl)
      have k4584 : H4567 x 0 = H x 0 := ((f4572 x 0 _ gx rfl).trans (f4493 x 0 _ gx rfl))
      have q4585 : H4567 x 0 = (tc : Int) := k4584.trans e0
      have k4586 : H4567 m 5 = H m 5 := ((f4572 m 5 _ gm rfl).trans (f4493 m 5 _ gm rfl))
      have q4587 : H4567 m 5 = (tm : Int) := k4586.trans em
      have k4588 : H4567 x 6 = H x 6 := ((f4572 x 6 _ gx rfl).trans (f4493 x 6 _ gx rfl))
      have q4589 : H4567 x 6 = (cu : Int) := k4588.trans ecu
      have k4590 : H4567 x 7 = H x 7 := ((f4572 x 7 _ gx rfl).trans (f4493 x 7 _ gx rfl))
      have q4591 : H4567 x 7 = (dr : Int) := k4590.trans edr
      have h4592 : CEN T H4567 ce8 e8 d8 := (CEN_fr w4492 gce8 f4572 rfl p4496)
      have h4593 : TP T H4567 tc B := (TP_fr w4492 gtc f4572 rfl (TP_fr hW gtc f4493 rfl htc))
      have h4594 : TM T H4567 tm B := (TM_fr w4492 gtm f4572 rfl (TM_fr hW gtm f4493 rfl htm))
      have h4595 : DD T H4567 cu  := (DD_fr w4492 gcu f4572 rfl (DD_fr hW gcu f4493 rfl hcu))
      have h4596 : DD T H4567 dr  := (DD_fr w4492 gdr f4572 rfl (DD_fr hW gdr f4493 rfl hdr))
      have h4597 : DE T H4567 cu  := (DE_fr w4492 gcu f4572 rfl (DE_fr hW gcu f4493 rfl hdec))
      have h4598 : DE T H4567 dr  := (DE_fr w4492 gdr f4572 rfl (DE_fr hW gdr f4493 rfl hded))
      have h4599 : SP T H4567 x C8 := (SP_fr w4492 gx f4572 rfl (SP_fr hW gx f4493 rfl hsp))
      have h4600 : CU T H4567 cu e8 d8 n8 := (CU_fr w4492 gcu f4572 rfl (CU_fr hW gcu f4493 rfl hcu8))
      have h4601 : CY T H4567 cu (d8 0 3) g8 (H cu 17) := (CY_fr w4492 gcu f4572 rfl (CY_fr hW gcu f4493 rfl h4481))
      have k4602 : H4567 x 3 = H x 3 := ((f4572 x 3 _ gx rfl).trans (f4493 x 3 _ gx rfl))
      have q4603 : H4567 x 3 = (ce8 : Int) := k4602.trans ece8
      have h4604 : HDR T H4567 ce8  := (HDR_fr w4492 gce8 f4572 rfl (HDR_fr hW gce8 f4493 rfl hhdr8))
      have h4605 : RY T H4567 m (d8 0 3) g8 (H m 32) := (RY_fr w4492 gm f4572 rfl (RY_fr hW gm f4493 rfl h4482))
      have h4606 : RB T H4567 m e8 d8 := (RB_fr w4492 gm f4572 rfl h4563)
      exact WL.loc hX (by simp) (next T H4567 ⟨⟨w4571, g0, gx, gm, go, by omega, by omega⟩, ⟨_, tc, tm, cu, dr, _, _, _, _, _, ce8, q4585, gtc, h4593, q4587, gtm, h4594, q4589, gcu, q4591, gdr, h4595, h4596, h4597, h4598, h4599, hC1, hC2, h4600, h4606, (h4601).1, (h4605).1, hE, hZ, (by omega), (by assumption), (by omega), (by first | assumption | exact SG_0), q4603, gce8, h4592, h4604, a4577, gm⟩, by omega, by omega⟩ (by omega) (by omega))
set_option maxHeartbeats 4000000 in
theorem wl_c30 {kt : Nat → Option mc_E} {CB SB : Nat} {X : mc_S → Prop} {T : wq_T} {H : wq_H} {Len x m o : Nat} {i : Int} (hX : wlX kt CB SB X) (hb : T.2.1 ≤ CB ∧ T.2.2.1 ≤ SB) (hI : wlJ Len x m o T H) (hL : Len ≤ 3072) (hi : 0 ≤ i ∧ i + 6 ≤ Len) (hb2 : T.2.1 + 20 ≤ CB ∧ T.2.2.1 + 500 ≤ SB)  (next : ∀ T' H', wlJ Len x m o T' H' → T'.2.1 ≤ T.2.1 + 20 → T'.2.2.1 ≤ T.2.2.1 + 500 → WL kt CB SB X 1653 (wlL i x m o) [] T' H') : WL kt CB SB X 1162 (wlL i x m o) [] T H := by
  obtain ⟨⟨hW, g0, gx, gm, go, hK, hr⟩, hXI, hY1, hY2⟩ := hI
  refine wl_of hX hb cL_1162 (rw_aload_n (pc' := 1163) (v := .ref x) rfl rfl rfl ?_)
  obtain ⟨B, tc, tm, cu, dr, C8, e8, d8, n8, g8, ce8, e0, gtc, htc, em, gtm, htm, ecu, gcu, edr, gdr, hcu, hdr, hdec, hded, hsp, hC1, hC2, hcu8, hrb8, hcg8, hmn8, hE, hZ, hn8, hXA, hV8, hSG, ece8, gce8, hcen8, hhdr8, hknn8, -⟩ := hXI
  have hN3 := RB_n3 hrb8
  have hE13 : ∀ h : Nat, h < 24 → 0 ≤ e8 13 h ∧ e8 13 h ≤ 100 := fun k hk => by
    obtain ⟨s, h1, h2, h3⟩ := hcu8.1.2.2.1
    exact ⟨(h3 k hk).1, (h3 k hk).2.1⟩
  have hXW := hXA.1
  have hXN := hXA.2
  have hE0 : e8 0 3 = d8 0 3 ∧ e8 0 0 = d8 0 0 := by
    have h := hE 0 (by decide)
    exact ⟨congrFun h 3, congrFun h 0⟩
  have u4607 := CU_k hcu8
  have h4608 : CY T H cu (d8 0 3) g8 (H cu 17) := ⟨hcg8, rfl⟩
  have h4609 : RY T H m (d8 0 3) g8 (H m 32) := ⟨hmn8, rfl⟩
  obtain ⟨t9, ht9⟩ : ∃ t : Int, t = H x 9 := ⟨_, rfl⟩
  obtain ⟨r4610, q4611, g4612⟩ := hW.ref gx (t' := 6) (n := 13) (j := 2) (p := 0) (q := 0) rfl (by decide) rfl
  refine wl_of hX hb cL_1163 (xc_V (pc' := 1166) (r := x) (as := []) (st := []) (lm_11_147) rfl rfl (Nat.le_of_ble_eq_true rfl) hW gx sh_1 (by decide) rfl (by decide) (u_120 (e := e8) (d := d8) (n := n8) hW gx ecu gcu q4611 g4612 ece8 gce8 (by assumption) (by assumption) (by omega) (by omega) (by omega) (by omega) hcu8 hcen8 hhdr8) (fun R4613 T4614 H4615 p4616 => ?_))
  obtain ⟨e4617, w4619, f4620, z4621, e4618, b4622, p4623⟩ := p4616
  subst e4617
  subst e4618
  show WL _ _ _ _ 1166 [(4, vI i), (3, .ref o), (2, .ref m), (1, .ref x), (0, .ref 0)] [vI z4621] _ H4615
  refine wl_of hX hb cL_1166 (rw_pop (pc' := 1167) rfl rfl ?_)
  refine wl_of hX hb cL_1167 (rw_aload_n (pc' := 1168) (v := .ref m) rfl rfl rfl ?_)
  have k4625 : wKI H4615 m = wKI H m := (wKI_fr hW gm f4620 rfl)
  have k4626 : H4615 x 9 = H x 9 := (f4620 x 9 _ gx rfl)
  have k4627 : H4615 m 6 = H m 6 := (f4620 m 6 _ gm rfl)
  have k4628 : H4615 x 11 = H x 11 := (f4620 x 11 _ gx rfl)
  have k4629 : H4615 m 13 = H m 13 := (f4620 m 13 _ gm rfl)
  have k4630 : H4615 x 8 = H x 8 := (f4620 x 8 _ gx rfl)
  have k4631 : H4615 m 3 = H m 3 := (f4620 m 3 _ gm rfl)
  have h4632 : RB T H4615 m e8 d8 := (RB_fr hW gm f4620 rfl hrb8)
  have h4633 : KNN T H4615 m e8 d8 := (KNN_fr hW gm f4620 rfl hknn8)
  refine wl_of hX hb cL_1168 (xc_V (pc' := 1171) (r := m) (as := []) (st := []) (lm_11_150) rfl rfl (Nat.le_of_ble_eq_true rfl) w4619 gm sh_42 (by decide) rfl (by decide) (u_266 (e := e8) (d := d8) w4619 gm (by omega) (by assumption) (by assumption) (by assumption) (by assumption) h4632 h4633) (fun R4634 T4635 H4636 p4637 => ?_))
  obtain ⟨e4638, w4640, f4641, z4642, e4639, b4643, p4644⟩ := p4637
  subst e4638
  subst e4639
  obtain ⟨a4645, a4646⟩ := p4644
  show WL _ _ _ _ 1171 [(4, vI i), (3, .ref o), (2, .ref m), (1, .ref x), (0, .ref 0)] [vI z4642] _ H4636
  refine wl_of hX hb cL_1171 (rw_pop (pc' := 1172) rfl rfl ?_)
  refine wl_of hX hb cL_1172 (rw_goto (p1 := 1653) (by decide) ?_)
  have k4647 : H4636 x 9 = H4615 x 9 := (f4641 x 9 _ gx rfl)
  have k4648 : H4636 m 6 = H4615 m 6 := (f4641 m 6 _ gm rfl)
  have k4649 : H4636 x 11 = H4615 x 11 := (f4641 x 11 _ gx rfl)
  have k4650 : H4636 m 13 = H4615 m 13 := (f4641 m 13 _ gm rfl)
  have k4651 : H4636 x 8 = H4615 x 8 := (f4641 x 8 _ gx rfl)
  have k4652 : H4636 m 3 = H4615 m 3 := (f4641 m 3 _ gm rfl)
  have k4653 : H4636 x 0 = H x 0 := ((f4641 x 0 _ gx rfl).trans (f4620 x 0 _ gx rfl))
  have q4654 : H4636 x 0 = (tc : Int) := k4653.trans e0
  have k4655 : H4636 m 5 = H m 5 := ((f4641 m 5 _ gm rfl).trans (f4620 m 5 _ gm rfl))
  have q4656 : H4636 m 5 = (tm : Int) := k4655.trans em
  have k4657 : H4636 x 6 = H x 6 := ((f4641 x 6 _ gx rfl).trans (f4620 x 6 _ gx rfl))
  have q4658 : H4636 x 6 = (cu : Int) := k4657.trans ecu
  have k4659 : H4636 x 7 = H x 7 := ((f4641 x 7 _ gx rfl).trans (f4620 x 7 _ gx rfl))
  have q4660 : H4636 x 7 = (dr : Int) := k4659.trans edr
  have h4661 : CEN T H4636 ce8 e8 d8 := (CEN_fr w4619 gce8 f4641 rfl p4623)
  have h4662 : TP T H4636 tc B := (TP_fr w4619 gtc f4641 rfl (TP_fr hW gtc f4620 rfl htc))
  have h4663 : TM T H4636 tm B := (TM_fr w4619 gtm f4641 rfl (TM_fr hW gtm f4620 rfl htm))
  have h4664 : DD T H4636 cu  := (DD_fr w4619 gcu f4641 rfl (DD_fr hW gcu f4620 rfl hcu))
  have h4665 : DD T H4636 dr  := (DD_fr w4619 gdr f4641 rfl (DD_fr hW gdr f4620 rfl hdr))
  have h4666 : DE T H4636 cu  := (DE_fr w4619 gcu f4641 rfl (DE_fr hW gcu f4620 rfl hdec))
  have h4667 : DE T H4636 dr  := (DE_fr w4619 gdr f4641 rfl (DE_fr hW gdr f4620 rfl hded))
  have h4668 : SP T H4636 x C8 := (SP_fr w4619 gx f4641 rfl (SP_fr hW gx f4620 rfl hsp))
  have h4669 : CU T H4636 cu e8 d8 n8 := (CU_fr w4619 gcu f4641 rfl (CU_fr hW gcu f4620 rfl hcu8))
  have h4670 : CY T H4636 cu (d8 0 3) g8 (H cu 17) := (CY_fr w4619 gcu f4641 rfl (CY_fr hW gcu f4620 rfl h4608))
  have k4671 : H4636 x 3 = H x 3 := ((f4641 x 3 _ gx rfl).trans (f4620 x 3 _ gx rfl))
  have q4672 : H4636 x 3 = (ce8 : Int) := k4671.trans ece8
  have h4673 : HDR T H4636 ce8  := (HDR_fr w4619 gce8 f4641 rfl (HDR_fr hW gce8 f4620 rfl hhdr8))
  have h4674 : RY T H4636 m (d8 0 3) g8 (H m 32) := (RY_fr w4619 gm f4641 rfl (RY_fr hW gm f4620 rfl h4609))
  have h4675 : RB T H4636 m e8 d8 := (RB_fr w4619 gm f4641 rfl h4632)
  exact WL.loc hX (by simp) (next T H4636 ⟨⟨w4640, g0, gx, gm, go, by omega, by omega⟩, ⟨_, tc, tm, cu, dr, _, _, _, _, _, ce8, q4654, gtc, h4662, q4656, gtm, h4663, q4658, gcu, q4660, gdr, h4664, h4665, h4666, h4667, h4668, hC1, hC2, h4669, h4675, (h4670).1, (h4674).1, hE, hZ, (by omega), (by assumption), (by omega), (by first | assumption | exact SG_0), q4672, gce8, h4661, h4673, a4646, gm⟩, by omega, by omega⟩ (by omega) (by omega))
set_option maxHeartbeats 4000000 in
theorem wl_c31 {kt : Nat → Option mc_E} {CB SB : Nat} {X : mc_S → Prop} {T : wq_T} {H : wq_H} {Len x m o : Nat} {i : Int} (hX : wlX kt CB SB X) (hb : T.2.1 ≤ CB ∧ T.2.2.1 ≤ SB) (hI : wlJ Len x m o T H) (hL : Len ≤ 3072) (hi : 0 ≤ i ∧ i + 6 ≤ Len) (hb2 : T.2.1 + 20 ≤ CB ∧ T.2.2.1 + 500 ≤ SB)  (next : ∀ T' H', wlJ Len x m o T' H' → T'.2.1 ≤ T.2.1 + 20 → T'.2.2.1 ≤ T.2.2.1 + 500 → WL kt CB SB X 1653 (wlL i x m o) [] T' H') : WL kt CB SB X 1175 (wlL i x m o) [] T H := by
  obtain ⟨⟨hW, g0, gx, gm, go, hK, hr⟩, hXI, hY1, hY2⟩ := hI
  refine wl_of hX hb cL_1175 (rw_aload_n (pc' := 1176) (v := .ref x) rfl rfl rfl ?_)
  refine wl_of hX hb cL_1176 (rw_aload_n (pc' := 1177) (v := .ref 0) rfl rfl rfl ?_)
  refine wl_of hX hb cL_1177 (rw_iload (pc' := 1179) (z := i) rfl rfl ?_)
  refine wl_of hX hb cL_1179 (rw_iconst (pc' := 1180) rfl ?_)
  refine wl_of hX hb cL_1180 (rw_iadd (pc' := 1181) rfl ?_)
  refine wl_of hX hb cL_1181 (xa_I (so := 0) (pc' := 1182) (a := 0) hW g0 (wsh_s _) (by omega) (wty_s _ _) (by omega) (by omega) rfl (fun b4676 b4677 => ?_))
  obtain ⟨B, tc, tm, cu, dr, C8, e8, d8, n8, g8, ce8, e0, gtc, htc, em, gtm, htm, ecu, gcu, edr, gdr, hcu, hdr, hdec, hded, hsp, hC1, hC2, hcu8, hrb8, hcg8, hmn8, hE, hZ, hn8, hXA, hV8, hSG, ece8, gce8, hcen8, hhdr8, hknn8, -⟩ := hXI
  have hN3 := RB_n3 hrb8
  have hE13 : ∀ h : Nat, h < 24 → 0 ≤ e8 13 h ∧ e8 13 h ≤ 100 := fun k hk => by
    obtain ⟨s, h1, h2, h3⟩ := hcu8.1.2.2.1
    exact ⟨(h3 k hk).1, (h3 k hk).2.1⟩
  have hXW := hXA.1
  have hXN := hXA.2
  have hE0 : e8 0 3 = d8 0 3 ∧ e8 0 0 = d8 0 0 := by
    have h := hE 0 (by decide)
    exact ⟨congrFun h 3, congrFun h 0⟩
  have u4678 := CU_k hcu8
  have h4679 : CY T H cu (d8 0 3) g8 (H cu 17) := ⟨hcg8, rfl⟩
  have h4680 : RY T H m (d8 0 3) g8 (H m 32) := ⟨hmn8, rfl⟩
  obtain ⟨t9, ht9⟩ : ∃ t : Int, t = H x 9 := ⟨_, rfl⟩
  obtain ⟨y9, hy9⟩ : ∃ y : Int, y = H 0 ((i + 1).toNat) := ⟨_, rfl⟩
  obtain ⟨r4681, q4682, g4683⟩ := hW.ref gx (t' := 6) (n := 13) (j := 2) (p := 0) (q := 0) rfl (by decide) rfl
  refine wl_of hX hb cL_1182 (xc_V (pc' := 1185) (r := x) (as := [vI (H 0 ((i + 1).toNat))]) (st := []) (lm_11_151) rfl rfl (Nat.le_of_ble_eq_true rfl) hW gx sh_1 (by decide) rfl (by decide) (u_130 (e := e8) (d := d8) (n := n8) hW gx ⟨by omega, by omega⟩ ecu gcu q4682 g4683 ece8 gce8 (by assumption) (by assumption) (by omega) (by omega) (by omega) (by omega) hcu8 hcen8 hhdr8) (fun R4684 T4685 H4686 p4687 => ?_))
  obtain ⟨e4688, w4690, f4691, z4692, e4689, b4693, p4694⟩ := p4687
  subst e4688
  subst e4689
  show WL _ _ _ _ 1185 [(4, vI i), (3, .ref o), (2, .ref m), (1, .ref x), (0, .ref 0)] [vI z4692] _ H4686
  refine wl_of hX hb cL_1185 (rw_pop (pc' := 1186) rfl rfl ?_)
  refine wl_of hX hb cL_1186 (rw_aload_n (pc' := 1187) (v := .ref m) rfl rfl rfl ?_)
  refine wl_of hX hb cL_1187 (rw_aload_n (pc' := 1188) (v := .ref 0) rfl rfl rfl ?_)
  refine wl_of hX hb cL_1188 (rw_iload (pc' := 1190) (z := i) rfl rfl ?_)
  refine wl_of hX hb cL_1190 (rw_iconst (pc' := 1191) rfl ?_)
  refine wl_of hX hb cL_1191 (rw_iadd (pc' := 1192) rfl ?_)
  have k4698 : H4686 0 ((i + 1).toNat) = H 0 ((i + 1).toNat) := (f4691 0 ((i + 1).toNat) _ g0 (wmem_s rfl))
  refine wl_of hX hb cL_1192 (xa_I (so := 0) (pc' := 1193) (a := 0) w4690 g0 (wsh_s _) (by omega) (wty_s _ _) (by omega) (by omega) rfl (fun b4696 b4697 => ?_))
  have k4699 : wKI H4686 m = wKI H m := (wKI_fr hW gm f4691 rfl)
  have k4700 : H4686 x 9 = H x 9 := (f4691 x 9 _ gx rfl)
  have k4701 : H4686 m 6 = H m 6 := (f4691 m 6 _ gm rfl)
  have k4702 : H4686 x 11 = H x 11 := (f4691 x 11 _ gx rfl)
  have k4703 : H4686 m 13 = H m 13 := (f4691 m 13 _ gm rfl)
  have k4704 : H4686 x 8 = H x 8 := (f4691 x 8 _ gx rfl)
  have k4705 : H4686 m 3 = H m 3 := (f4691 m 3 _ gm rfl)
  rw [show H4686 0 ((i + 1).toNat) = H 0 ((i + 1).toNat) by omega]
  have h4706 : RB T H4686 m e8 d8 := (RB_fr hW gm f4691 rfl hrb8)
  have h4707 : KNN T H4686 m e8 d8 := (KNN_fr hW gm f4691 rfl hknn8)
  refine wl_of hX hb cL_1193 (xc_V (pc' := 1196) (r := m) (as := [vI (H 0 ((i + 1).toNat))]) (st := []) (lm_11_154) rfl rfl (Nat.le_of_ble_eq_true rfl) w4690 gm sh_42 (by decide) rfl (by decide) (u_271 (e := e8) (d := d8) w4690 gm ⟨by omega, by omega⟩ (by omega) (by assumption) (by assumption) (by assumption) (by assumption) h4706 h4707) (fun R4708 T4709 H4710 p4711 => ?_))
  obtain ⟨e4712, w4714, f4715, z4716, e4713, b4717, p4718⟩ := p4711
  subst e4712
  subst e4713
  obtain ⟨a4719, a4720⟩ := p4718
  show WL _ _ _ _ 1196 [(4, vI i), (3, .ref o), (2, .ref m), (1, .ref x), (0, .ref 0)] [vI z4716] _ H4710
  refine wl_of hX hb cL_1196 (rw_pop (pc' := 1197) rfl rfl ?_)
  refine wl_of hX hb cL_1197 (rw_goto (p1 := 1653) (by decide) ?_)
  have k4721 : H4710 x 9 = H4686 x 9 := (f4715 x 9 _ gx rfl)
  have k4722 : H4710 m 6 = H4686 m 6 := (f4715 m 6 _ gm rfl)
  have k4723 : H4710 x 11 = H4686 x 11 := (f4715 x 11 _ gx rfl)
  have k4724 : H4710 m 13 = H4686 m 13 := (f4715 m 13 _ gm rfl)
  have k4725 : H4710 x 8 = H4686 x 8 := (f4715 x 8 _ gx rfl)
  have k4726 : H4710 m 3 = H4686 m 3 := (f4715 m 3 _ gm rfl)
  have k4727 : H4710 x 0 = H x 0 := ((f4715 x 0 _ gx rfl).trans (f4691 x 0 _ gx rfl))
  have q4728 : H4710 x 0 = (tc : Int) := k4727.trans e0
  have k4729 : H4710 m 5 = H m 5 := ((f4715 m 5 _ gm rfl).trans (f4691 m 5 _ gm rfl))
  have q4730 : H4710 m 5 = (tm : Int) := k4729.trans em
  have k4731 : H4710 x 6 = H x 6 := ((f4715 x 6 _ gx rfl).trans (f4691 x 6 _ gx rfl))
  have q4732 : H4710 x 6 = (cu : Int) := k4731.trans ecu
  have k4733 : H4710 x 7 = H x 7 := ((f4715 x 7 _ gx rfl).trans (f4691 x 7 _ gx rfl))
  have q4734 : H4710 x 7 = (dr : Int) := k4733.trans edr
  have h4735 : CEN T H4710 ce8 e8 d8 := (CEN_fr w4690 gce8 f4715 rfl p4694)
  have h4736 : TP T H4710 tc B := (TP_fr w4690 gtc f4715 rfl (TP_fr hW gtc f4691 rfl htc))
  have h4737 : TM T H4710 tm B := (TM_fr w4690 gtm f4715 rfl (TM_fr hW gtm f4691 rfl htm))
  have h4738 : DD T H4710 cu  := (DD_fr w4690 gcu f4715 rfl (DD_fr hW gcu f4691 rfl hcu))
  have h4739 : DD T H4710 dr  := (DD_fr w4690 gdr f4715 rfl (DD_fr hW gdr f4691 rfl hdr))
  have h4740 : DE T H4710 cu  := (DE_fr w4690 gcu f4715 rfl (DE_fr hW gcu f4691 rfl hdec))
  have h4741 : DE T H4710 dr  := (DE_fr w4690 gdr f4715 rfl (DE_fr hW gdr f4691 rfl hded))
  have h4742 : SP T H4710 x C8 := (SP_fr w4690 gx f4715 rfl (SP_fr hW gx f4691 rfl hsp))
  have h4743 : CU T H4710 cu e8 d8 n8 := (CU_fr w4690 gcu f4715 rfl (CU_fr hW gcu f4691 rfl hcu8))
  have h4744 : CY T H4710 cu (d8 0 3) g8 (H cu 17) := (CY_fr w4690 gcu f4715 rfl (CY_fr hW gcu f4691 rfl h4679))
  have k4745 : H4710 x 3 = H x 3 := ((f4715 x 3 _ gx rfl).trans (f4691 x 3 _ gx rfl))
  have q4746 : H4710 x 3 = (ce8 : Int) := k4745.trans ece8
  have h4747 : HDR T H4710 ce8  := (HDR_fr w4690 gce8 f4715 rfl (HDR_fr hW gce8 f4691 rfl hhdr8))
  have h4748 : RY T H4710 m (d8 0 3) g8 (H m 32) := (RY_fr w4690 gm f4715 rfl (RY_fr hW gm f4691 rfl h4680))
  have h4749 : RB T H4710 m e8 d8 := (RB_fr w4690 gm f4715 rfl h4706)
  exact WL.loc hX (by simp) (next T H4710 ⟨⟨w4714, g0, gx, gm, go, by omega, by omega⟩, ⟨_, tc, tm, cu, dr, _, _, _, _, _, ce8, q4728, gtc, h4736, q4730, gtm, h4737, q4732, gcu, q4734, gdr, h4738, h4739, h4740, h4741, h4742, hC1, hC2, h4743, h4749, (h4744).1, (h4748).1, hE, hZ, (by omega), (by assumption), (by omega), (by first | assumption | exact SG_0), q4746, gce8, h4735, h4747, a4720, gm⟩, by omega, by omega⟩ (by omega) (by omega))
set_option maxHeartbeats 4000000 in
theorem wl_c32 {kt : Nat → Option mc_E} {CB SB : Nat} {X : mc_S → Prop} {T : wq_T} {H : wq_H} {Len x m o : Nat} {i : Int} (hX : wlX kt CB SB X) (hb : T.2.1 ≤ CB ∧ T.2.2.1 ≤ SB) (hI : wlJ Len x m o T H) (hL : Len ≤ 3072) (hi : 0 ≤ i ∧ i + 6 ≤ Len) (hb2 : T.2.1 + 20 ≤ CB ∧ T.2.2.1 + 500 ≤ SB)  (next : ∀ T' H', wlJ Len x m o T' H' → T'.2.1 ≤ T.2.1 + 20 → T'.2.2.1 ≤ T.2.2.1 + 500 → WL kt CB SB X 1653 (wlL i x m o) [] T' H') : WL kt CB SB X 1200 (wlL i x m o) [] T H := by
  obtain ⟨⟨hW, g0, gx, gm, go, hK, hr⟩, hXI, hY1, hY2⟩ := hI
  refine wl_of hX hb cL_1200 (rw_aload_n (pc' := 1201) (v := .ref x) rfl rfl rfl ?_)
  refine wl_of hX hb cL_1201 (rw_aload_n (pc' := 1202) (v := .ref 0) rfl rfl rfl ?_)
  refine wl_of hX hb cL_1202 (rw_iload (pc' := 1204) (z := i) rfl rfl ?_)
  refine wl_of hX hb cL_1204 (rw_iconst (pc' := 1205) rfl ?_)
  refine wl_of hX hb cL_1205 (rw_iadd (pc' := 1206) rfl ?_)
  refine wl_of hX hb cL_1206 (xa_I (so := 0) (pc' := 1207) (a := 0) hW g0 (wsh_s _) (by omega) (wty_s _ _) (by omega) (by omega) rfl (fun b4750 b4751 => ?_))
  obtain ⟨B, tc, tm, cu, dr, C8, e8, d8, n8, g8, ce8, e0, gtc, htc, em, gtm, htm, ecu, gcu, edr, gdr, hcu, hdr, hdec, hded, hsp, hC1, hC2, hcu8, hrb8, hcg8, hmn8, hE, hZ, hn8, hXA, hV8, hSG, ece8, gce8, hcen8, hhdr8, hknn8, -⟩ := hXI
  have hN3 := RB_n3 hrb8
  have hE13 : ∀ h : Nat, h < 24 → 0 ≤ e8 13 h ∧ e8 13 h ≤ 100 := fun k hk => by
    obtain ⟨s, h1, h2, h3⟩ := hcu8.1.2.2.1
    exact ⟨(h3 k hk).1, (h3 k hk).2.1⟩
  have hXW := hXA.1
  have hXN := hXA.2
  have hE0 : e8 0 3 = d8 0 3 ∧ e8 0 0 = d8 0 0 := by
    have h := hE 0 (by decide)
    exact ⟨congrFun h 3, congrFun h 0⟩
  have u4752 := CU_k hcu8
  have h4753 : CY T H cu (d8 0 3) g8 (H cu 17) := ⟨hcg8, rfl⟩
  have h4754 : RY T H m (d8 0 3) g8 (H m 32) := ⟨hmn8, rfl⟩
  obtain ⟨t9, ht9⟩ : ∃ t : Int, t = H x 9 := ⟨_, rfl⟩
  obtain ⟨y9, hy9⟩ : ∃ y : Int, y = H 0 ((i + 1).toNat) := ⟨_, rfl⟩
  obtain ⟨r4755, q4756, g4757⟩ := hW.ref gx (t' := 6) (n := 13) (j := 2) (p := 0) (q := 0) rfl (by decide) rfl
  refine wl_of hX hb cL_1207 (xc_V (pc' := 1210) (r := x) (as := [vI (H 0 ((i + 1).toNat))]) (st := []) (lm_11_155) rfl rfl (Nat.le_of_ble_eq_true rfl) hW gx sh_1 (by decide) rfl (by decide) (u_132 (e := e8) (d := d8) (n := n8) hW gx ⟨by omega, by omega⟩ ecu gcu q4756 g4757 ece8 gce8 (by assumption) (by assumption) (by omega) (by omega) (by omega) (by omega) hcu8 hcen8 hhdr8) (fun R4758 T4759 H4760 p4761 => ?_))
  obtain ⟨e4762, w4764, f4765, z4766, e4763, b4767, p4768⟩ := p4761
  subst e4762
  subst e4763
  show WL _ _ _ _ 1210 [(4, vI i), (3, .ref o), (2, .ref m), (1, .ref x), (0, .ref 0)] [vI z4766] _ H4760
  refine wl_of hX hb cL_1210 (rw_pop (pc' := 1211) rfl rfl ?_)
  refine wl_of hX hb cL_1211 (rw_aload_n (pc' := 1212) (v := .ref m) rfl rfl rfl ?_)
  refine wl_of hX hb cL_1212 (rw_aload_n (pc' := 1213) (v := .ref 0) rfl rfl rfl ?_)
  refine wl_of hX hb cL_1213 (rw_iload (pc' := 1215) (z := i) rfl rfl ?_)
  refine wl_of hX hb cL_1215 (rw_iconst (pc' := 1216) rfl ?_)
  refine wl_of hX hb cL_1216 (rw_iadd (pc' := 1217) rfl ?_)
  have k4772 : H4760 0 ((i + 1).toNat) = H 0 ((i + 1).toNat) := (f4765 0 ((i + 1).toNat) _ g0 (wmem_s rfl))
  refine wl_of hX hb cL_1217 (xa_I (so := 0) (pc' := 1218) (a := 0) w4764 g0 (wsh_s _) (by omega) (wty_s _ _) (by omega) (by omega) rfl (fun b4770 b4771 => ?_))
  have k4773 : wKI H4760 m = wKI H m := (wKI_fr hW gm f4765 rfl)
  have k4774 : H4760 x 9 = H x 9 := (f4765 x 9 _ gx rfl)
  have k4775 : H4760 m 6 = H m 6 := (f4765 m 6 _ gm rfl)
  have k4776 : H4760 x 11 = H x 11 := (f4765 x 11 _ gx rfl)
  have k4777 : H4760 m 13 = H m 13 := (f4765 m 13 _ gm rfl)
  have k4778 : H4760 x 8 = H x 8 := (f4765 x 8 _ gx rfl)
  have k4779 : H4760 m 3 = H m 3 := (f4765 m 3 _ gm rfl)
  rw [show H4760 0 ((i + 1).toNat) = H 0 ((i + 1).toNat) by omega]
  have h4780 : RB T H4760 m e8 d8 := (RB_fr hW gm f4765 rfl hrb8)
  have h4781 : KNN T H4760 m e8 d8 := (KNN_fr hW gm f4765 rfl hknn8)
  refine wl_of hX hb cL_1218 (xc_V (pc' := 1221) (r := m) (as := [vI (H 0 ((i + 1).toNat))]) (st := []) (lm_11_158) rfl rfl (Nat.le_of_ble_eq_true rfl) w4764 gm sh_42 (by decide) rfl (by decide) (u_272 (e := e8) (d := d8) w4764 gm ⟨by omega, by omega⟩ (by omega) (by assumption) (by assumption) (by assumption) (by assumption) h4780 h4781) (fun R4782 T4783 H4784 p4785 => ?_))
  obtain ⟨e4786, w4788, f4789, z4790, e4787, b4791, p4792⟩ := p4785
  subst e4786
  subst e4787
  obtain ⟨a4793, a4794⟩ := p4792
  show WL _ _ _ _ 1221 [(4, vI i), (3, .ref o), (2, .ref m), (1, .ref x), (0, .ref 0)] [vI z4790] _ H4784
  refine wl_of hX hb cL_1221 (rw_pop (pc' := 1222) rfl rfl ?_)
  refine wl_of hX hb cL_1222 (rw_goto (p1 := 1653) (by decide) ?_)
  have k4795 : H4784 x 9 = H4760 x 9 := (f4789 x 9 _ gx rfl)
  have k4796 : H4784 m 6 = H4760 m 6 := (f4789 m 6 _ gm rfl)
  have k4797 : H4784 x 11 = H4760 x 11 := (f4789 x 11 _ gx rfl)
  have k4798 : H4784 m 13 = H4760 m 13 := (f4789 m 13 _ gm rfl)
  have k4799 : H4784 x 8 = H4760 x 8 := (f4789 x 8 _ gx rfl)
  have k4800 : H4784 m 3 = H4760 m 3 := (f4789 m 3 _ gm rfl)
  have k4801 : H4784 x 0 = H x 0 := ((f4789 x 0 _ gx rfl).trans (f4765 x 0 _ gx rfl))
  have q4802 : H4784 x 0 = (tc : Int) := k4801.trans e0
  have k4803 : H4784 m 5 = H m 5 := ((f4789 m 5 _ gm rfl).trans (f4765 m 5 _ gm rfl))
  have q4804 : H4784 m 5 = (tm : Int) := k4803.trans em
  have k4805 : H4784 x 6 = H x 6 := ((f4789 x 6 _ gx rfl).trans (f4765 x 6 _ gx rfl))
  have q4806 : H4784 x 6 = (cu : Int) := k4805.trans ecu
  have k4807 : H4784 x 7 = H x 7 := ((f4789 x 7 _ gx rfl).trans (f4765 x 7 _ gx rfl))
  have q4808 : H4784 x 7 = (dr : Int) := k4807.trans edr
  have h4809 : CEN T H4784 ce8 e8 d8 := (CEN_fr w4764 gce8 f4789 rfl p4768)
  have h4810 : TP T H4784 tc B := (TP_fr w4764 gtc f4789 rfl (TP_fr hW gtc f4765 rfl htc))
  have h4811 : TM T H4784 tm B := (TM_fr w4764 gtm f4789 rfl (TM_fr hW gtm f4765 rfl htm))
  have h4812 : DD T H4784 cu  := (DD_fr w4764 gcu f4789 rfl (DD_fr hW gcu f4765 rfl hcu))
  have h4813 : DD T H4784 dr  := (DD_fr w4764 gdr f4789 rfl (DD_fr hW gdr f4765 rfl hdr))
  have h4814 : DE T H4784 cu  := (DE_fr w4764 gcu f4789 rfl (DE_fr hW gcu f4765 rfl hdec))
  have h4815 : DE T H4784 dr  := (DE_fr w4764 gdr f4789 rfl (DE_fr hW gdr f4765 rfl hded))
  have h4816 : SP T H4784 x C8 := (SP_fr w4764 gx f4789 rfl (SP_fr hW gx f4765 rfl hsp))
  have h4817 : CU T H4784 cu e8 d8 n8 := (CU_fr w4764 gcu f4789 rfl (CU_fr hW gcu f4765 rfl hcu8))
  have h4818 : CY T H4784 cu (d8 0 3) g8 (H cu 17) := (CY_fr w4764 gcu f4789 rfl (CY_fr hW gcu f4765 rfl h4753))
  have k4819 : H4784 x 3 = H x 3 := ((f4789 x 3 _ gx rfl).trans (f4765 x 3 _ gx rfl))
  have q4820 : H4784 x 3 = (ce8 : Int) := k4819.trans ece8
  have h4821 : HDR T H4784 ce8  := (HDR_fr w4764 gce8 f4789 rfl (HDR_fr hW gce8 f4765 rfl hhdr8))
  have h4822 : RY T H4784 m (d8 0 3) g8 (H m 32) := (RY_fr w4764 gm f4789 rfl (RY_fr hW gm f4765 rfl h4754))
  have h4823 : RB T H4784 m e8 d8 := (RB_fr w4764 gm f4789 rfl h4780)
  exact WL.loc hX (by simp) (next T H4784 ⟨⟨w4788, g0, gx, gm, go, by omega, by omega⟩, ⟨_, tc, tm, cu, dr, _, _, _, _, _, ce8, q4802, gtc, h4810, q4804, gtm, h4811, q4806, gcu, q4808, gdr, h4812, h4813, h4814, h4815, h4816, hC1, hC2, h4817, h4823, (h4818).1, (h4822).1, hE, hZ, (by omega), (by assumption), (by omega), (by first | assumption | exact SG_0), q4820, gce8, h4809, h4821, a4794, gm⟩, by omega, by omega⟩ (by omega) (by omega))
set_option maxHeartbeats 4000000 in
theorem wl_c33 {kt : Nat → Option mc_E} {CB SB : Nat} {X : mc_S → Prop} {T : wq_T} {H : wq_H} {Len x m o : Nat} {i : Int} (hX : wlX kt CB SB X) (hb : T.2.1 ≤ CB ∧ T.2.2.1 ≤ SB) (hI : wlJ Len x m o T H) (hL : Len ≤ 3072) (hi : 0 ≤ i ∧ i + 6 ≤ Len) (hb2 : T.2.1 + 20 ≤ CB ∧ T.2.2.1 + 500 ≤ SB)  (next : ∀ T' H', wlJ Len x m o T' H' → T'.2.1 ≤ T.2.1 + 20 → T'.2.2.1 ≤ T.2.2.1 + 500 → WL kt CB SB X 1653 (wlL i x m o) [] T' H') : WL kt CB SB X 1225 (wlL i x m o) [] T H := by
  obtain ⟨⟨hW, g0, gx, gm, go, hK, hr⟩, hXI, hY1, hY2⟩ := hI
  refine wl_of hX hb cL_1225 (rw_aload_n (pc' := 1226) (v := .ref x) rfl rfl rfl ?_)
  refine wl_of hX hb cL_1226 (rw_aload_n (pc' := 1227) (v := .ref 0) rfl rfl rfl ?_)
  refine wl_of hX hb cL_1227 (rw_iload (pc' := 1229) (z := i) rfl rfl ?_)
  refine wl_of hX hb cL_1229 (rw_iconst (pc' := 1230) rfl ?_)
  refine wl_of hX hb cL_1230 (rw_iadd (pc' := 1231) rfl ?_)
  refine wl_of hX hb cL_1231 (xa_I (so := 0) (pc' := 1232) (a := 0) hW g0 (wsh_s _) (by omega) (wty_s _ _) (by omega) (by omega) rfl (fun b4824 b4825 => ?_))
  obtain ⟨B, tc, tm, cu, dr, C8, e8, d8, n8, g8, ce8, e0, gtc, htc, em, gtm, htm, ecu, gcu, edr, gdr, hcu, hdr, hdec, hded, hsp, hC1, hC2, hcu8, hrb8, hcg8, hmn8, hE, hZ, hn8, hXA, hV8, hSG, ece8, gce8, hcen8, hhdr8, hknn8, -⟩ := hXI
  have hN3 := RB_n3 hrb8
  have hE13 : ∀ h : Nat, h < 24 → 0 ≤ e8 13 h ∧ e8 13 h ≤ 100 := fun k hk => by
    obtain ⟨s, h1, h2, h3⟩ := hcu8.1.2.2.1
    exact ⟨(h3 k hk).1, (h3 k hk).2.1⟩
  have hXW := hXA.1
  have hXN := hXA.2
  have hE0 : e8 0 3 = d8 0 3 ∧ e8 0 0 = d8 0 0 := by
    have h := hE 0 (by decide)
    exact ⟨congrFun h 3, congrFun h 0⟩
  have u4826 := CU_k hcu8
  have h4827 : CY T H cu (d8 0 3) g8 (H cu 17) := ⟨hcg8, rfl⟩
  have h4828 : RY T H m (d8 0 3) g8 (H m 32) := ⟨hmn8, rfl⟩
  obtain ⟨t9, ht9⟩ : ∃ t : Int, t = H x 9 := ⟨_, rfl⟩
  obtain ⟨y9, hy9⟩ : ∃ y : Int, y = H 0 ((i + 1).toNat) := ⟨_, rfl⟩
  obtain ⟨r4829, q4830, g4831⟩ := hW.ref gx (t' := 6) (n := 13) (j := 2) (p := 0) (q := 0) rfl (by decide) rfl
  refine wl_of hX hb cL_1232 (xc_V (pc' := 1235) (r := x) (as := [vI (H 0 ((i + 1).toNat))]) (st := []) (lm_11_159) rfl rfl (Nat.le_of_ble_eq_true rfl) hW gx sh_1 (by decide) rfl (by decide) (u_135 (e := e8) (d := d8) (n := n8) hW gx ⟨by omega, by omega⟩ ecu gcu q4830 g4831 ece8 gce8 (by assumption) (by assumption) (by omega) (by omega) (by omega) (by omega) hcu8 hcen8 hhdr8) (fun R4832 T4833 H4834 p4835 => ?_))
  obtain ⟨e4836, w4838, f4839, z4840, e4837, b4841, p4842⟩ := p4835
  subst e4836
  subst e4837
  show WL _ _ _ _ 1235 [(4, vI i), (3, .ref o), (2, .ref m), (1, .ref x), (0, .ref 0)] [vI z4840] _ H4834
  refine wl_of hX hb cL_1235 (rw_pop (pc' := 1236) rfl rfl ?_)
  refine wl_of hX hb cL_1236 (rw_aload_n (pc' := 1237) (v := .ref m) rfl rfl rfl ?_)
  refine wl_of hX hb cL_1237 (rw_aload_n (pc' := 1238) (v := .ref 0) rfl rfl rfl ?_)
  refine wl_of hX hb cL_1238 (rw_iload (pc' := 1240) (z := i) rfl rfl ?_)
  refine wl_of hX hb cL_1240 (rw_iconst (pc' := 1241) rfl ?_)
  refine wl_of hX hb cL_1241 (rw_iadd (pc' := 1242) rfl ?_)
  have k4846 : H4834 0 ((i + 1).toNat) = H 0 ((i + 1).toNat) := (f4839 0 ((i + 1).toNat) _ g0 (wmem_s rfl))
  refine wl_of hX hb cL_1242 (xa_I (so := 0) (pc' := 1243) (a := 0) w4838 g0 (wsh_s _) (by omega) (wty_s _ _) (by omega) (by omega) rfl (fun b4844 b4845 => ?_))
  have k4847 : wKI H4834 m = wKI H m := (wKI_fr hW gm f4839 rfl)
  have k4848 : H4834 x 9 = H x 9 := (f4839 x 9 _ gx rfl)
  have k4849 : H4834 m 6 = H m 6 := (f4839 m 6 _ gm rfl)
  have k4850 : H4834 x 11 = H x 11 := (f4839 x 11 _ gx rfl)
  have k4851 : H4834 m 13 = H m 13 := (f4839 m 13 _ gm rfl)
  have k4852 : H4834 x 8 = H x 8 := (f4839 x 8 _ gx rfl)
  have k4853 : H4834 m 3 = H m 3 := (f4839 m 3 _ gm rfl)
  rw [show H4834 0 ((i + 1).toNat) = H 0 ((i + 1).toNat) by omega]
  have h4854 : RB T H4834 m e8 d8 := (RB_fr hW gm f4839 rfl hrb8)
  have h4855 : KNN T H4834 m e8 d8 := (KNN_fr hW gm f4839 rfl hknn8)
  refine wl_of hX hb cL_1243 (xc_V (pc' := 1246) (r := m) (as := [vI (H 0 ((i + 1).toNat))]) (st := []) (lm_11_162) rfl rfl (Nat.le_of_ble_eq_true rfl) w4838 gm sh_42 (by decide) rfl (by decide) (u_275 (e := e8) (d := d8) w4838 gm ⟨by omega, by omega⟩ (by omega) (by assumption) (by assumption) (by assumption) (by assumption) h4854 h4855) (fun R4856 T4857 H4858 p4859 => ?_))
  obtain ⟨e4860, w4862, f4863, z4864, e4861, b4865, p4866⟩ := p4859
  subst e4860
  subst e4861
  obtain ⟨a4867, a4868⟩ := p4866
  show WL _ _ _ _ 1246 [(4, vI i), (3, .ref o), (2, .ref m), (1, .ref x), (0, .ref 0)] [vI z4864] _ H4858
  refine wl_of hX hb cL_1246 (rw_pop (pc' := 1247) rfl rfl ?_)
  refine wl_of hX hb cL_1247 (rw_goto (p1 := 1653) (by decide) ?_)
  have k4869 : H4858 x 9 = H4834 x 9 := (f4863 x 9 _ gx rfl)
  have k4870 : H4858 m 6 = H4834 m 6 := (f4863 m 6 _ gm rfl)
  have k4871 : H4858 x 11 = H4834 x 11 := (f4863 x 11 _ gx rfl)
  have k4872 : H4858 m 13 = H4834 m 13 := (f4863 m 13 _ gm rfl)
  have k4873 : H4858 x 8 = H4834 x 8 := (f4863 x 8 _ gx rfl)
  have k4874 : H4858 m 3 = H4834 m 3 := (f4863 m 3 _ gm rfl)
  have k4875 : H4858 x 0 = H x 0 := ((f4863 x 0 _ gx rfl).trans (f4839 x 0 _ gx rfl))
  have q4876 : H4858 x 0 = (tc : Int) := k4875.trans e0
  have k4877 : H4858 m 5 = H m 5 := ((f4863 m 5 _ gm rfl).trans (f4839 m 5 _ gm rfl))
  have q4878 : H4858 m 5 = (tm : Int) := k4877.trans em
  have k4879 : H4858 x 6 = H x 6 := ((f4863 x 6 _ gx rfl).trans (f4839 x 6 _ gx rfl))
  have q4880 : H4858 x 6 = (cu : Int) := k4879.trans ecu
  have k4881 : H4858 x 7 = H x 7 := ((f4863 x 7 _ gx rfl).trans (f4839 x 7 _ gx rfl))
  have q4882 : H4858 x 7 = (dr : Int) := k4881.trans edr
  have h4883 : CEN T H4858 ce8 e8 d8 := (CEN_fr w4838 gce8 f4863 rfl p4842)
  have h4884 : TP T H4858 tc B := (TP_fr w4838 gtc f4863 rfl (TP_fr hW gtc f4839 rfl htc))
  have h4885 : TM T H4858 tm B := (TM_fr w4838 gtm f4863 rfl (TM_fr hW gtm f4839 rfl htm))
  have h4886 : DD T H4858 cu  := (DD_fr w4838 gcu f4863 rfl (DD_fr hW gcu f4839 rfl hcu))
  have h4887 : DD T H4858 dr  := (DD_fr w4838 gdr f4863 rfl (DD_fr hW gdr f4839 rfl hdr))
  have h4888 : DE T H4858 cu  := (DE_fr w4838 gcu f4863 rfl (DE_fr hW gcu f4839 rfl hdec))
  have h4889 : DE T H4858 dr  := (DE_fr w4838 gdr f4863 rfl (DE_fr hW gdr f4839 rfl hded))
  have h4890 : SP T H4858 x C8 := (SP_fr w4838 gx f4863 rfl (SP_fr hW gx f4839 rfl hsp))
  have h4891 : CU T H4858 cu e8 d8 n8 := (CU_fr w4838 gcu f4863 rfl (CU_fr hW gcu f4839 rfl hcu8))
  have h4892 : CY T H4858 cu (d8 0 3) g8 (H cu 17) := (CY_fr w4838 gcu f4863 rfl (CY_fr hW gcu f4839 rfl h4827))
  have k4893 : H4858 x 3 = H x 3 := ((f4863 x 3 _ gx rfl).trans (f4839 x 3 _ gx rfl))
  have q4894 : H4858 x 3 = (ce8 : Int) := k4893.trans ece8
  have h4895 : HDR T H4858 ce8  := (HDR_fr w4838 gce8 f4863 rfl (HDR_fr hW gce8 f4839 rfl hhdr8))
  have h4896 : RY T H4858 m (d8 0 3) g8 (H m 32) := (RY_fr w4838 gm f4863 rfl (RY_fr hW gm f4839 rfl h4828))
  have h4897 : RB T H4858 m e8 d8 := (RB_fr w4838 gm f4863 rfl h4854)
  exact WL.loc hX (by simp) (next T H4858 ⟨⟨w4862, g0, gx, gm, go, by omega, by omega⟩, ⟨_, tc, tm, cu, dr, _, _, _, _, _, ce8, q4876, gtc, h4884, q4878, gtm, h4885, q4880, gcu, q4882, gdr, h4886, h4887, h4888, h4889, h4890, hC1, hC2, h4891, h4897, (h4892).1, (h4896).1, hE, hZ, (by omega), (by assumption), (by omega), (by first | assumption | exact SG_0), q4894, gce8, h4883, h4895, a4868, gm⟩, by omega, by omega⟩ (by omega) (by omega))
set_option maxHeartbeats 4000000 in
theorem wl_c34 {kt : Nat → Option mc_E} {CB SB : Nat} {X : mc_S → Prop} {T : wq_T} {H : wq_H} {Len x m o : Nat} {i : Int} (hX : wlX kt CB SB X) (hb : T.2.1 ≤ CB ∧ T.2.2.1 ≤ SB) (hI : wlJ Len x m o T H) (hL : Len ≤ 3072) (hi : 0 ≤ i ∧ i + 6 ≤ Len) (hb2 : T.2.1 + 20 ≤ CB ∧ T.2.2.1 + 500 ≤ SB)  (next : ∀ T' H', wlJ Len x m o T' H' → T'.2.1 ≤ T.2.1 + 20 → T'.2.2.1 ≤ T.2.2.1 + 500 → WL kt CB SB X 1653 (wlL i x m o) [] T' H') : WL kt CB SB X 1250 (wlL i x m o) [] T H := by
  obtain ⟨⟨hW, g0, gx, gm, go, hK, hr⟩, hXI, hY1, hY2⟩ := hI
  refine wl_of hX hb cL_1250 (rw_aload_n (pc' := 1251) (v := .ref x) rfl rfl rfl ?_)
  obtain ⟨B, tc, tm, cu, dr, C8, e8, d8, n8, g8, ce8, e0, gtc, htc, em, gtm, htm, ecu, gcu, edr, gdr, hcu, hdr, hdec, hded, hsp, hC1, hC2, hcu8, hrb8, hcg8, hmn8, hE, hZ, hn8, hXA, hV8, hSG, ece8, gce8, hcen8, hhdr8, hknn8, -⟩ := hXI
  have hN3 := RB_n3 hrb8
  have hE13 : ∀ h : Nat, h < 24 → 0 ≤ e8 13 h ∧ e8 13 h ≤ 100 := fun k hk => by
    obtain ⟨s, h1, h2, h3⟩ := hcu8.1.2.2.1
    exact ⟨(h3 k hk).1, (h3 k hk).2.1⟩
  have hXW := hXA.1
  have hXN := hXA.2
  have hE0 : e8 0 3 = d8 0 3 ∧ e8 0 0 = d8 0 0 := by
    have h := hE 0 (by decide)
    exact ⟨congrFun h 3, congrFun h 0⟩
  have u4898 := CU_k hcu8
  have h4899 : CY T H cu (d8 0 3) g8 (H cu 17) := ⟨hcg8, rfl⟩
  have h4900 : RY T H m (d8 0 3) g8 (H m 32) := ⟨hmn8, rfl⟩
  obtain ⟨t9, ht9⟩ : ∃ t : Int, t = H x 9 := ⟨_, rfl⟩
  obtain ⟨r4901, q4902, g4903⟩ := hW.ref gx (t' := 6) (n := 13) (j := 2) (p := 0) (q := 0) rfl (by decide) rfl
  refine wl_of hX hb cL_1251 (xc_V (pc' := 1254) (r := x) (as := []) (st := []) (lm_11_163) rfl rfl (Nat.le_of_ble_eq_true rfl) hW gx sh_1 (by decide) rfl (by decide) (u_137 (e := e8) (d := d8) (n := n8) hW gx ecu gcu q4902 g4903 ece8 gce8 (by assumption) (by assumption) (by omega) (by omega) (by omega) (by omega) hcu8 hcen8 hhdr8) (fun R4904 T4905 H4906 p4907 => ?_))
  obtain ⟨e4908, w4910, f4911, z4912, e4909, b4913, p4914⟩ := p4907
  subst e4908
  subst e4909
  show WL _ _ _ _ 1254 [(4, vI i), (3, .ref o), (2, .ref m), (1, .ref x), (0, .ref 0)] [vI z4912] _ H4906
  refine wl_of hX hb cL_1254 (rw_pop (pc' := 1255) rfl rfl ?_)
  refine wl_of hX hb cL_1255 (rw_aload_n (pc' := 1256) (v := .ref m) rfl rfl rfl ?_)
  have k4916 : wKI H4906 m = wKI H m := (wKI_fr hW gm f4911 rfl)
  have k4917 : H4906 x 9 = H x 9 := (f4911 x 9 _ gx rfl)
  have k4918 : H4906 m 6 = H m 6 := (f4911 m 6 _ gm rfl)
  have k4919 : H4906 x 11 = H x 11 := (f4911 x 11 _ gx rfl)
  have k4920 : H4906 m 13 = H m 13 := (f4911 m 13 _ gm rfl)
  have k4921 : H4906 x 8 = H x 8 := (f4911 x 8 _ gx rfl)
  have k4922 : H4906 m 3 = H m 3 := (f4911 m 3 _ gm rfl)
  have h4923 : RB T H4906 m e8 d8 := (RB_fr hW gm f4911 rfl hrb8)
  have h4924 : KNN T H4906 m e8 d8 := (KNN_fr hW gm f4911 rfl hknn8)
  refine wl_of hX hb cL_1256 (xc_V (pc' := 1259) (r := m) (as := []) (st := []) (lm_11_166) rfl rfl (Nat.le_of_ble_eq_true rfl) w4910 gm sh_42 (by decide) rfl (by decide) (u_276 (e := e8) (d := d8) w4910 gm (by omega) (by assumption) (by assumption) (by assumption) (by assumption) h4923 h4924) (fun R4925 T4926 H4927 p4928 => ?_))
  obtain ⟨e4929, w4931, f4932, z4933, e4930, b4934, p4935⟩ := p4928
  subst e4929
  subst e4930
  obtain ⟨a4936, a4937⟩ := p4935
  show WL _ _ _ _ 1259 [(4, vI i), (3, .ref o), (2, .ref m), (1, .ref x), (0, .ref 0)] [vI z4933] _ H4927
  refine wl_of hX hb cL_1259 (rw_pop (pc' := 1260) rfl rfl ?_)
  refine wl_of hX hb cL_1260 (rw_goto (p1 := 1653) (by decide) ?_)
  have k4938 : H4927 x 9 = H4906 x 9 := (f4932 x 9 _ gx rfl)
  have k4939 : H4927 m 6 = H4906 m 6 := (f4932 m 6 _ gm rfl)
  have k4940 : H4927 x 11 = H4906 x 11 := (f4932 x 11 _ gx rfl)
  have k4941 : H4927 m 13 = H4906 m 13 := (f4932 m 13 _ gm rfl)
  have k4942 : H4927 x 8 = H4906 x 8 := (f4932 x 8 _ gx rfl)
  have k4943 : H4927 m 3 = H4906 m 3 := (f4932 m 3 _ gm rfl)
  have k4944 : H4927 x 0 = H x 0 := ((f4932 x 0 _ gx rfl).trans (f4911 x 0 _ gx rfl))
  have q4945 : H4927 x 0 = (tc : Int) := k4944.trans e0
  have k4946 : H4927 m 5 = H m 5 := ((f4932 m 5 _ gm rfl).trans (f4911 m 5 _ gm rfl))
  have q4947 : H4927 m 5 = (tm : Int) := k4946.trans em
  have k4948 : H4927 x 6 = H x 6 := ((f4932 x 6 _ gx rfl).trans (f4911 x 6 _ gx rfl))
  have q4949 : H4927 x 6 = (cu : Int) := k4948.trans ecu
  have k4950 : H4927 x 7 = H x 7 := ((f4932 x 7 _ gx rfl).trans (f4911 x 7 _ gx rfl))
  have q4951 : H4927 x 7 = (dr : Int) := k4950.trans edr
  have h4952 : CEN T H4927 ce8 e8 d8 := (CEN_fr w4910 gce8 f4932 rfl p4914)
  have h4953 : TP T H4927 tc B := (TP_fr w4910 gtc f4932 rfl (TP_fr hW gtc f4911 rfl htc))
  have h4954 : TM T H4927 tm B := (TM_fr w4910 gtm f4932 rfl (TM_fr hW gtm f4911 rfl htm))
  have h4955 : DD T H4927 cu  := (DD_fr w4910 gcu f4932 rfl (DD_fr hW gcu f4911 rfl hcu))
  have h4956 : DD T H4927 dr  := (DD_fr w4910 gdr f4932 rfl (DD_fr hW gdr f4911 rfl hdr))
  have h4957 : DE T H4927 cu  := (DE_fr w4910 gcu f4932 rfl (DE_fr hW gcu f4911 rfl hdec))
  have h4958 : DE T H4927 dr  := (DE_fr w4910 gdr f4932 rfl (DE_fr hW gdr f4911 rfl hded))
  have h4959 : SP T H4927 x C8 := (SP_fr w4910 gx f4932 rfl (SP_fr hW gx f4911 rfl hsp))
  have h4960 : CU T H4927 cu e8 d8 n8 := (CU_fr w4910 gcu f4932 rfl (CU_fr hW gcu f4911 rfl hcu8))
  have h4961 : CY T H4927 cu (d8 0 3) g8 (H cu 17) := (CY_fr w4910 gcu f4932 rfl (CY_fr hW gcu f4911 rfl h4899))
  have k4962 : H4927 x 3 = H x 3 := ((f4932 x 3 _ gx rfl).trans (f4911 x 3 _ gx rfl))
  have q4963 : H4927 x 3 = (ce8 : Int) := k4962.trans ece8
  have h4964 : HDR T H4927 ce8  := (HDR_fr w4910 gce8 f4932 rfl (HDR_fr hW gce8 f4911 rfl hhdr8))
  have h4965 : RY T H4927 m (d8 0 3) g8 (H m 32) := (RY_fr w4910 gm f4932 rfl (RY_fr hW gm f4911 rfl h4900))
  have h4966 : RB T H4927 m e8 d8 := (RB_fr w4910 gm f4932 rfl h4923)
  exact WL.loc hX (by simp) (next T H4927 ⟨⟨w4931, g0, gx, gm, go, by omega, by omega⟩, ⟨_, tc, tm, cu, dr, _, _, _, _, _, ce8, q4945, gtc, h4953, q4947, gtm, h4954, q4949, gcu, q4951, gdr, h4955, h4956, h4957, h4958, h4959, hC1, hC2, h4960, h4966, (h4961).1, (h4965).1, hE, hZ, (by omega), (by assumption), (by omega), (by first | assumption | exact SG_0), q4963, gce8, h4952, h4964, a4937, gm⟩, by omega, by omega⟩ (by omega) (by omega))
set_option maxHeartbeats 4000000 in
theorem wl_c35 {kt : Nat → Option mc_E} {CB SB : Nat} {X : mc_S → Prop} {T : wq_T} {H : wq_H} {Len x m o : Nat} {i : Int} (hX : wlX kt CB SB X) (hb : T.2.1 ≤ CB ∧ T.2.2.1 ≤ SB) (hI : wlJ Len x m o T H) (hL : Len ≤ 3072) (hi : 0 ≤ i ∧ i + 6 ≤ Len) (hb2 : T.2.1 + 20 ≤ CB ∧ T.2.2.1 + 500 ≤ SB)  (next : ∀ T' H', wlJ Len x m o T' H' → T'.2.1 ≤ T.2.1 + 20 → T'.2.2.1 ≤ T.2.2.1 + 500 → WL kt CB SB X 1653 (wlL i x m o) [] T' H') : WL kt CB SB X 1263 (wlL i x m o) [] T H := by
  obtain ⟨⟨hW, g0, gx, gm, go, hK, hr⟩, hXI, hY1, hY2⟩ := hI
  refine wl_of hX hb cL_1263 (rw_aload_n (pc' := 1264) (v := .ref x) rfl rfl rfl ?_)
  refine wl_of hX hb cL_1264 (rw_aload_n (pc' := 1265) (v := .ref 0) rfl rfl rfl ?_)
  refine wl_of hX hb cL_1265 (rw_iload (pc' := 1267) (z := i) rfl rfl ?_)
  refine wl_of hX hb cL_1267 (rw_iconst (pc' := 1268) rfl ?_)
  refine wl_of hX hb cL_1268 (rw_iadd (pc' := 1269) rfl ?_)
  refine wl_of hX hb cL_1269 (xa_I (so := 0) (pc' := 1270) (a := 0) hW g0 (wsh_s _) (by omega) (wty_s _ _) (by omega) (by omega) rfl (fun b4967 b4968 => ?_))
  refine wl_of hX hb cL_1270 (rw_aload_n (pc' := 1271) (v := .ref 0) rfl rfl rfl ?_)
  refine wl_of hX hb cL_1271 (rw_iload (pc' := 1273) (z := i) rfl rfl ?_)
  refine wl_of hX hb cL_1273 (rw_iconst (pc' := 1274) rfl ?_)
  refine wl_of hX hb cL_1274 (rw_iadd (pc' := 1275) rfl ?_)
  refine wl_of hX hb cL_1275 (xa_I (so := 0) (pc' := 1276) (a := 0) hW g0 (wsh_s _) (by omega) (wty_s _ _) (by omega) (by omega) rfl (fun b4969 b4970 => ?_))
  refine wl_of hX hb cL_1276 (rw_if_eq (p1 := 1283) (p2 := 1279) (by decide) rfl ⟨by omega, by omega⟩ (fun c4971 => ?_) (fun c4971 => ?_))
  · refine wl_of hX hb cL_1283 (rw_iconst (pc' := 1284) rfl ?_)
    obtain ⟨B, tc, tm, cu, dr, C8, e8, d8, n8, g8, ce8, e0, gtc, htc, em, gtm, htm, ecu, gcu, edr, gdr, hcu, hdr, hdec, hded, hsp, hC1, hC2, hcu8, hrb8, hcg8, hmn8, hE, hZ, hn8, hXA, hV8, hSG, ece8, gce8, hcen8, hhdr8, hknn8, -⟩ := hXI
    have hN3 := RB_n3 hrb8
    have hE13 : ∀ h : Nat, h < 24 → 0 ≤ e8 13 h ∧ e8 13 h ≤ 100 := fun k hk => by
      obtain ⟨s, h1, h2, h3⟩ := hcu8.1.2.2.1
      exact ⟨(h3 k hk).1, (h3 k hk).2.1⟩
    have hXW := hXA.1
    have hXN := hXA.2
    have hE0 : e8 0 3 = d8 0 3 ∧ e8 0 0 = d8 0 0 := by
      have h := hE 0 (by decide)
      exact ⟨congrFun h 3, congrFun h 0⟩
    have u4972 := CU_k hcu8
    have h4973 : CY T H cu (d8 0 3) g8 (H cu 17) := ⟨hcg8, rfl⟩
    have h4974 : RY T H m (d8 0 3) g8 (H m 32) := ⟨hmn8, rfl⟩
    obtain ⟨t9, ht9⟩ : ∃ t : Int, t = H x 9 := ⟨_, rfl⟩
    obtain ⟨y9, hy9⟩ : ∃ y : Int, y = 0 := ⟨_, rfl⟩
    obtain ⟨r4975, q4976, g4977⟩ := hW.ref gx (t' := 6) (n := 13) (j := 2) (p := 0) (q := 0) rfl (by decide) rfl
    refine wl_of hX hb cL_1284 (xc_V (pc' := 1287) (r := x) (as := [vI (H 0 ((i + 1).toNat)), vI 0]) (st := []) (lm_11_167) rfl rfl (Nat.le_of_ble_eq_true rfl) hW gx sh_1 (by decide) rfl (by decide) (u_146 (e := e8) (d := d8) (n := n8) hW gx ⟨by omega, by omega⟩ ⟨by decide, by decide⟩ ecu gcu q4976 g4977 ece8 gce8 (by assumption) (by assumption) (by omega) (by omega) (by omega) (by omega) hcu8 hcen8 hhdr8) (fun R4978 T4979 H4980 p4981 => ?_))
    obtain ⟨e4982, w4984, f4985, z4986, e4983, b4987, p4988⟩ := p4981
    subst e4982
    subst e4983
    show WL _ _ _ _ 1287 [(4, vI i), (3, .ref o), (2, .ref m), (1, .ref x), (0, .ref 0)] [vI z4986] _ H4980
    refine wl_of hX hb cL_1287 (rw_pop (pc' := 1288) rfl rfl ?_)
    refine wl_of hX hb cL_1288 (rw_aload_n (pc' := 1289) (v := .ref m) rfl rfl rfl ?_)
    refine wl_of hX hb cL_1289 (rw_aload_n (pc' := 1290) (v := .ref 0) rfl rfl rfl ?_)
    refine wl_of hX hb cL_1290 (rw_iload (pc' := 1292) (z := i) rfl rfl ?_)
    refine wl_of hX hb cL_1292 (rw_iconst (pc' := 1293) rfl ?_)
    refine wl_of hX hb cL_1293 (rw_iadd (pc' := 1294) rfl ?_)
    have k4992 : H4980 0 ((i + 1).toNat) = H 0 ((i + 1).toNat) := (f4985 0 ((i + 1).toNat) _ g0 (wmem_s rfl))
    refine wl_of hX hb cL_1294 (xa_I (so := 0) (pc' := 1295) (a := 0) w4984 g0 (wsh_s _) (by omega) (wty_s _ _) (by omega) (by omega) rfl (fun b4990 b4991 => ?_))
    refine wl_of hX hb cL_1295 (rw_aload_n (pc' := 1296) (v := .ref 0) rfl rfl rfl ?_)
    refine wl_of hX hb cL_1296 (rw_iload (pc' := 1298) (z := i) rfl rfl ?_)
    refine wl_of hX hb cL_1298 (rw_iconst (pc' := 1299) rfl ?_)
    refine wl_of hX hb cL_1299 (rw_iadd (pc' := 1300) rfl ?_)
    have k4995 : H4980 0 ((i + 2).toNat) = H 0 ((i + 2).toNat) := (f4985 0 ((i + 2).toNat) _ g0 (wmem_s rfl))
    refine wl_of hX hb cL_1300 (xa_I (so := 0) (pc' := 1301) (a := 0) w4984 g0 (wsh_s _) (by omega) (wty_s _ _) (by omega) (by omega) rfl (fun b4993 b4994 => ?_))
    refine wl_of hX hb cL_1301 (rw_if_eq (p1 := 1308) (p2 := 1304) (by decide) rfl ⟨by omega, by omega⟩ (fun c4996 => ?_) (fun c4996 => ?_))
    · refine wl_of hX hb cL_1308 (rw_iconst (pc' := 1309) rfl ?_)
      have k4997 : wKI H4980 m = wKI H m := (wKI_fr hW gm f4985 rfl)
      have k4998 : H4980 x 9 = H x 9 := (f4985 x 9 _ gx rfl)
      have k4999 : H4980 m 6 = H m 6 := (f4985 m 6 _ gm rfl)
      have k5000 : H4980 x 11 = H x 11 := (f4985 x 11 _ gx rfl)
      have k5001 : H4980 m 13 = H m 13 := (f4985 m 13 _ gm rfl)
      have k5002 : H4980 x 8 = H x 8 := (f4985 x 8 _ gx rfl)
      have k5003 : H4980 m 3 = H m 3 := (f4985 m 3 _ gm rfl)
      rw [show H4980 0 ((i + 1).toNat) = H 0 ((i + 1).toNat) by omega]
      have h5004 : RB T H4980 m e8 d8 := (RB_fr hW gm f4985 rfl hrb8)
      have h5005 : KNN T H4980 m e8 d8 := (KNN_fr hW gm f4985 rfl hknn8)
      refine wl_of hX hb cL_1309 (xc_V (pc' := 1312) (r := m) (as := [vI (H 0 ((i + 1).toNat)), vI 0]) (st := []) (lm_11_170) rfl rfl (Nat.le_of_ble_eq_true rfl) w4984 gm sh_42 (by decide) rfl (by decide) (u_279 (e := e8) (d := d8) w4984 gm ⟨by omega, by omega⟩ ⟨by decide, by decide⟩ (by omega) (by assumption) (by assumption) (by assumption) (by assumption) h5004 h5005) (fun R5006 T5007 H5008 p5009 => ?_))
      obtain ⟨e5010, w5012, f5013, z5014, e5011, b5015, p5016⟩ := p5009
      subst e5010
      subst e5011
      obtain ⟨a5017, a5018⟩ := p5016
      show WL _ _ _ _ 1312 [(4, vI i), (3, .ref o), (2, .ref m), (1, .ref x), (0, .ref 0)] [vI z5014] _ H5008
      refine wl_of hX hb cL_1312 (rw_pop (pc' := 1313) rfl rfl ?_)
      refine wl_of hX hb cL_1313 (rw_goto (p1 := 1653) (by decide) ?_)
      have k5019 : H5008 x 9 = H4980 x 9 := (f5013 x 9 _ gx rfl)
      have k5020 : H5008 m 6 = H4980 m 6 := (f5013 m 6 _ gm rfl)
      have k5021 : H5008 x 11 = H4980 x 11 := (f5013 x 11 _ gx rfl)
      have k5022 : H5008 m 13 = H4980 m 13 := (f5013 m 13 _ gm rfl)
      have k5023 : H5008 x 8 = H4980 x 8 := (f5013 x 8 _ gx rfl)
      have k5024 : H5008 m 3 = H4980 m 3 := (f5013 m 3 _ gm rfl)
      have k5025 : H5008 x 0 = H x 0 := ((f5013 x 0 _ gx rfl).trans (f4985 x 0 _ gx rfl))
      have q5026 : H5008 x 0 = (tc : Int) := k5025.trans e0
      have k5027 : H5008 m 5 = H m 5 := ((f5013 m 5 _ gm rfl).trans (f4985 m 5 _ gm rfl))
      have q5028 : H5008 m 5 = (tm : Int) := k5027.trans em
      have k5029 : H5008 x 6 = H x 6 := ((f5013 x 6 _ gx rfl).trans (f4985 x 6 _ gx rfl))
      have q5030 : H5008 x 6 = (cu : Int) := k5029.trans ecu
      have k5031 : H5008 x 7 = H x 7 := ((f5013 x 7 _ gx rfl).trans (f4985 x 7 _ gx rfl))
      have q5032 : H5008 x 7 = (dr : Int) := k5031.trans edr
      have h5033 : CEN T H5008 ce8 e8 d8 := (CEN_fr w4984 gce8 f5013 rfl p4988)
      have h5034 : TP T H5008 tc B := (TP_fr w4984 gtc f5013 rfl (TP_fr hW gtc f4985 rfl htc))
      have h5035 : TM T H5008 tm B := (TM_fr w4984 gtm f5013 rfl (TM_fr hW gtm f4985 rfl htm))
      have h5036 : DD T H5008 cu  := (DD_fr w4984 gcu f5013 rfl (DD_fr hW gcu f4985 rfl hcu))
      have h5037 : DD T H5008 dr  := (DD_fr w4984 gdr f5013 rfl (DD_fr hW gdr f4985 rfl hdr))
      have h5038 : DE T H5008 cu  := (DE_fr w4984 gcu f5013 rfl (DE_fr hW gcu f4985 rfl hdec))
      have h5039 : DE T H5008 dr  := (DE_fr w4984 gdr f5013 rfl (DE_fr hW gdr f4985 rfl hded))
      have h5040 : SP T H5008 x C8 := (SP_fr w4984 gx f5013 rfl (SP_fr hW gx f4985 rfl hsp))
      have h5041 : CU T H5008 cu e8 d8 n8 := (CU_fr w4984 gcu f5013 rfl (CU_fr hW gcu f4985 rfl hcu8))
      have h5042 : CY T H5008 cu (d8 0 3) g8 (H cu 17) := (CY_fr w4984 gcu f5013 rfl (CY_fr hW gcu f4985 rfl h4973))
      have k5043 : H5008 x 3 = H x 3 := ((f5013 x 3 _ gx rfl).trans (f4985 x 3 _ gx rfl))
      have q5044 : H5008 x 3 = (ce8 : Int) := k5043.trans ece8
      have h5045 : HDR T H5008 ce8  := (HDR_fr w4984 gce8 f5013 rfl (HDR_fr hW gce8 f4985 rfl hhdr8))
      have h5046 : RY T H5008 m (d8 0 3) g8 (H m 32) := (RY_fr w4984 gm f5013 rfl (RY_fr hW gm f4985 rfl h4974))
      have h5047 : RB T H5008 m e8 d8 := (RB_fr w4984 gm f5013 rfl h5004)
      exact WL.loc hX (by simp) (next T H5008 ⟨⟨w5012, g0, gx, gm, go, by omega, by omega⟩, ⟨_, tc, tm, cu, dr, _, _, _, _, _, ce8, q5026, gtc, h5034, q5028, gtm, h5035, q5030, gcu, q5032, gdr, h5036, h5037, h5038, h5039, h5040, hC1, hC2, h5041, h5047, (h5042).1, (h5046).1, hE, hZ, (by omega), (by assumption), (by omega), (by first | assumption | exact SG_0), q5044, gce8, h5033, h5045, a5018, gm⟩, by omega, by omega⟩ (by omega) (by omega))
    · exfalso
      omega
  · refine wl_of hX hb cL_1279 (rw_iconst (pc' := 1280) rfl ?_)
    refine wl_of hX hb cL_1280 (rw_goto (p1 := 1284) (by decide) ?_)
    obtain ⟨B, tc, tm, cu, dr, C8, e8, d8, n8, g8, ce8, e0, gtc, htc, em, gtm, htm, ecu, gcu, edr, gdr, hcu, hdr, hdec, hded, hsp, hC1, hC2, hcu8, hrb8, hcg8, hmn8, hE, hZ, hn8, hXA, hV8, hSG, ece8, gce8, hcen8, hhdr8, hknn8, -⟩ := hXI
    have hN3 := RB_n3 hrb8
    have hE13 : ∀ h : Nat, h < 24 → 0 ≤ e8 13 h ∧ e8 13 h ≤ 100 := fun k hk => by
      obtain ⟨s, h1, h2, h3⟩ := hcu8.1.2.2.1
      exact ⟨(h3 k hk).1, (h3 k hk).2.1⟩
    have hXW := hXA.1
    have hXN := hXA.2
    have hE0 : e8 0 3 = d8 0 3 ∧ e8 0 0 = d8 0 0 := by
      have h := hE 0 (by decide)
      exact ⟨congrFun h 3, congrFun h 0⟩
    have u5048 := CU_k hcu8
    have h5049 : CY T H cu (d8 0 3) g8 (H cu 17) := ⟨hcg8, rfl⟩
    have h5050 : RY T H m (d8 0 3) g8 (H m 32) := ⟨hmn8, rfl⟩
    obtain ⟨t9, ht9⟩ : ∃ t : Int, t = H x 9 := ⟨_, rfl⟩
    obtain ⟨y9, hy9⟩ : ∃ y : Int, y = 1 := ⟨_, rfl⟩
    obtain ⟨r5051, q5052, g5053⟩ := hW.ref gx (t' := 6) (n := 13) (j := 2) (p := 0) (q := 0) rfl (by decide) rfl
    refine wl_of hX hb cL_1284 (xc_V (pc' := 1287) (r := x) (as := [vI (H 0 ((i + 1).toNat)), vI 1]) (st := []) (lm_11_167) rfl rfl (Nat.le_of_ble_eq_true rfl) hW gx sh_1 (by decide) rfl (by decide) (u_146 (e := e8) (d := d8) (n := n8) hW gx ⟨by omega, by omega⟩ ⟨by decide, by decide⟩ ecu gcu q5052 g5053 ece8 gce8 (by assumption) (by assumption) (by omega) (by omega) (by omega) (by omega) hcu8 hcen8 hhdr8) (fun R5054 T5055 H5056 p5057 => ?_))
    obtain ⟨e5058, w5060, f5061, z5062, e5059, b5063, p5064⟩ := p5057
    subst e5058
    subst e5059
    show WL _ _ _ _ 1287 [(4, vI i), (3, .ref o), (2, .ref m), (1, .ref x), (0, .ref 0)] [vI z5062] _ H5056
    refine wl_of hX hb cL_1287 (rw_pop (pc' := 1288) rfl rfl ?_)
    refine wl_of hX hb cL_1288 (rw_aload_n (pc' := 1289) (v := .ref m) rfl rfl rfl ?_)
    refine wl_of hX hb cL_1289 (rw_aload_n (pc' := 1290) (v := .ref 0) rfl rfl rfl ?_)
    refine wl_of hX hb cL_1290 (rw_iload (pc' := 1292) (z := i) rfl rfl ?_)
    refine wl_of hX hb cL_1292 (rw_iconst (pc' := 1293) rfl ?_)
    refine wl_of hX hb cL_1293 (rw_iadd (pc' := 1294) rfl ?_)
    have k5068 : H5056 0 ((i + 1).toNat) = H 0 ((i + 1).toNat) := (f5061 0 ((i + 1).toNat) _ g0 (wmem_s rfl))
    refine wl_of hX hb cL_1294 (xa_I (so := 0) (pc' := 1295) (a := 0) w5060 g0 (wsh_s _) (by omega) (wty_s _ _) (by omega) (by omega) rfl (fun b5066 b5067 => ?_))
    refine wl_of hX hb cL_1295 (rw_aload_n (pc' := 1296) (v := .ref 0) rfl rfl rfl ?_)
    refine wl_of hX hb cL_1296 (rw_iload (pc' := 1298) (z := i) rfl rfl ?_)
    refine wl_of hX hb cL_1298 (rw_iconst (pc' := 1299) rfl ?_)
    refine wl_of hX hb cL_1299 (rw_iadd (pc' := 1300) rfl ?_)
    have k5071 : H5056 0 ((i + 2).toNat) = H 0 ((i + 2).toNat) := (f5061 0 ((i + 2).toNat) _ g0 (wmem_s rfl))
    refine wl_of hX hb cL_1300 (xa_I (so := 0) (pc' := 1301) (a := 0) w5060 g0 (wsh_s _) (by omega) (wty_s _ _) (by omega) (by omega) rfl (fun b5069 b5070 => ?_))
    refine wl_of hX hb cL_1301 (rw_if_eq (p1 := 1308) (p2 := 1304) (by decide) rfl ⟨by omega, by omega⟩ (fun c5072 => ?_) (fun c5072 => ?_))
    · refine wl_of hX hb cL_1308 (rw_iconst (pc' := 1309) rfl ?_)
      have k5073 : wKI H5056 m = wKI H m := (wKI_fr hW gm f5061 rfl)
      have k5074 : H5056 x 9 = H x 9 := (f5061 x 9 _ gx rfl)
      have k5075 : H5056 m 6 = H m 6 := (f5061 m 6 _ gm rfl)
      have k5076 : H5056 x 11 = H x 11 := (f5061 x 11 _ gx rfl)
      have k5077 : H5056 m 13 = H m 13 := (f5061 m 13 _ gm rfl)
      have k5078 : H5056 x 8 = H x 8 := (f5061 x 8 _ gx rfl)
      have k5079 : H5056 m 3 = H m 3 := (f5061 m 3 _ gm rfl)
      rw [show H5056 0 ((i + 1).toNat) = H 0 ((i + 1).toNat) by omega]
      have h5080 : RB T H5056 m e8 d8 := (RB_fr hW gm f5061 rfl hrb8)
      have h5081 : KNN T H5056 m e8 d8 := (KNN_fr hW gm f5061 rfl hknn8)
      refine wl_of hX hb cL_1309 (xc_V (pc' := 1312) (r := m) (as := [vI (H 0 ((i + 1).toNat)), vI 0]) (st := []) (lm_11_170) rfl rfl (Nat.le_of_ble_eq_true rfl) w5060 gm sh_42 (by decide) rfl (by decide) (u_279 (e := e8) (d := d8) w5060 gm ⟨by omega, by omega⟩ ⟨by decide, by decide⟩ (by omega) (by assumption) (by assumption) (by assumption) (by assumption) h5080 h5081) (fun R5082 T5083 H5084 p5085 => ?_))
      obtain ⟨e5086, w5088, f5089, z5090, e5087, b5091, p5092⟩ := p5085
      subst e5086
      subst e5087
      obtain ⟨a5093, a5094⟩ := p5092
      show WL _ _ _ _ 1312 [(4, vI i), (3, .ref o), (2, .ref m), (1, .ref x), (0, .ref 0)] [vI z5090] _ H5084
      refine wl_of hX hb cL_1312 (rw_pop (pc' := 1313) rfl rfl ?_)
      refine wl_of hX hb cL_1313 (rw_goto (p1 := 1653) (by decide) ?_)
      have k5095 : H5084 x 9 = H5056 x 9 := (f5089 x 9 _ gx rfl)
      have k5096 : H5084 m 6 = H5056 m 6 := (f5089 m 6 _ gm rfl)
      have k5097 : H5084 x 11 = H5056 x 11 := (f5089 x 11 _ gx rfl)
      have k5098 : H5084 m 13 = H5056 m 13 := (f5089 m 13 _ gm rfl)
      have k5099 : H5084 x 8 = H5056 x 8 := (f5089 x 8 _ gx rfl)
      have k5100 : H5084 m 3 = H5056 m 3 := (f5089 m 3 _ gm rfl)
      have k5101 : H5084 x 0 = H x 0 := ((f5089 x 0 _ gx rfl).trans (f5061 x 0 _ gx rfl))
      have q5102 : H5084 x 0 = (tc : Int) := k5101.trans e0
      have k5103 : H5084 m 5 = H m 5 := ((f5089 m 5 _ gm rfl).trans (f5061 m 5 _ gm rfl))
      have q5104 : H5084 m 5 = (tm : Int) := k5103.trans em
      have k5105 : H5084 x 6 = H x 6 := ((f5089 x 6 _ gx rfl).trans (f5061 x 6 _ gx rfl))
      have q5106 : H5084 x 6 = (cu : Int) := k5105.trans ecu
      have k5107 : H5084 x 7 = H x 7 := ((f5089 x 7 _ gx rfl).trans (f5061 x 7 _ gx rfl))
      have q5108 : H5084 x 7 = (dr : Int) := k5107.trans edr
      have h5109 : CEN T H5084 ce8 e8 d8 := (CEN_fr w5060 gce8 f5089 rfl p5064)
      have h5110 : TP T H5084 tc B := (TP_fr w5060 gtc f5089 rfl (TP_fr hW gtc f5061 rfl htc))
      have h5111 : TM T H5084 tm B := (TM_fr w5060 gtm f5089 rfl (TM_fr hW gtm f5061 rfl htm))
      have h5112 : DD T H5084 cu  := (DD_fr w5060 gcu f5089 rfl (DD_fr hW gcu f5061 rfl hcu))
      have h5113 : DD T H5084 dr  := (DD_fr w5060 gdr f5089 rfl (DD_fr hW gdr f5061 rfl hdr))
      have h5114 : DE T H5084 cu  := (DE_fr w5060 gcu f5089 rfl (DE_fr hW gcu f5061 rfl hdec))
      have h5115 : DE T H5084 dr  := (DE_fr w5060 gdr f5089 rfl (DE_fr hW gdr f5061 rfl hded))
      have h5116 : SP T H5084 x C8 := (SP_fr w5060 gx f5089 rfl (SP_fr hW gx f5061 rfl hsp))
      have h5117 : CU T H5084 cu e8 d8 n8 := (CU_fr w5060 gcu f5089 rfl (CU_fr hW gcu f5061 rfl hcu8))
      have h5118 : CY T H5084 cu (d8 0 3) g8 (H cu 17) := (CY_fr w5060 gcu f5089 rfl (CY_fr hW gcu f5061 rfl h5049))
      have k5119 : H5084 x 3 = H x 3 := ((f5089 x 3 _ gx rfl).trans (f5061 x 3 _ gx rfl))
      have q5120 : H5084 x 3 = (ce8 : Int) := k5119.trans ece8
      have h5121 : HDR T H5084 ce8  := (HDR_fr w5060 gce8 f5089 rfl (HDR_fr hW gce8 f5061 rfl hhdr8))
      have h5122 : RY T H5084 m (d8 0 3) g8 (H m 32) := (RY_fr w5060 gm f5089 rfl (RY_fr hW gm f5061 rfl h5050))
      have h5123 : RB T H5084 m e8 d8 := (RB_fr w5060 gm f5089 rfl h5080)
      exact WL.loc hX (by simp) (next T H5084 ⟨⟨w5088, g0, gx, gm, go, by omega, by omega⟩, ⟨_, tc, tm, cu, dr, _, _, _, _, _, ce8, q5102, gtc, h5110, q5104, gtm, h5111, q5106, gcu, q5108, gdr, h5112, h5113, h5114, h5115, h5116, hC1, hC2, h5117, h5123, (h5118).1, (h5122).1, hE, hZ, (by omega), (by assumption), (by omega), (by first | assumption | exact SG_0), q5120, gce8, h5109, h5121, a5094, gm⟩, by omega, by omega⟩ (by omega) (by omega))
    · refine wl_of hX hb cL_1304 (rw_iconst (pc' := 1305) rfl ?_)
      refine wl_of hX hb cL_1305 (rw_goto (p1 := 1309) (by decide) ?_)
      have k5124 : wKI H5056 m = wKI H m := (wKI_fr hW gm f5061 rfl)
      have k5125 : H5056 x 9 = H x 9 := (f5061 x 9 _ gx rfl)
      have k5126 : H5056 m 6 = H m 6 := (f5061 m 6 _ gm rfl)
      have k5127 : H5056 x 11 = H x 11 := (f5061 x 11 _ gx rfl)
      have k5128 : H5056 m 13 = H m 13 := (f5061 m 13 _ gm rfl)
      have k5129 : H5056 x 8 = H x 8 := (f5061 x 8 _ gx rfl)
      have k5130 : H5056 m 3 = H m 3 := (f5061 m 3 _ gm rfl)
      rw [show H5056 0 ((i + 1).toNat) = H 0 ((i + 1).toNat) by omega]
      have h5131 : RB T H5056 m e8 d8 := (RB_fr hW gm f5061 rfl hrb8)
      have h5132 : KNN T H5056 m e8 d8 := (KNN_fr hW gm f5061 rfl hknn8)
      refine wl_of hX hb cL_1309 (xc_V (pc' := 1312) (r := m) (as := [vI (H 0 ((i + 1).toNat)), vI 1]) (st := []) (lm_11_170) rfl rfl (Nat.le_of_ble_eq_true rfl) w5060 gm sh_42 (by decide) rfl (by decide) (u_279 (e := e8) (d := d8) w5060 gm ⟨by omega, by omega⟩ ⟨by decide, by decide⟩ (by omega) (by assumption) (by assumption) (by assumption) (by assumption) h5131 h5132) (fun R5133 T5134 H5135 p5136 => ?_))
      obtain ⟨e5137, w5139, f5140, z5141, e5138, b5142, p5143⟩ := p5136
      subst e5137
      subst e5138
      obtain ⟨a5144, a5145⟩ := p5143
      show WL _ _ _ _ 1312 [(4, vI i), (3, .ref o), (2, .ref m), (1, .ref x), (0, .ref 0)] [vI z5141] _ H5135
      refine wl_of hX hb cL_1312 (rw_pop (pc' := 1313) rfl rfl ?_)
      refine wl_of hX hb cL_1313 (rw_goto (p1 := 1653) (by decide) ?_)
      have k5146 : H5135 x 9 = H5056 x 9 := (f5140 x 9 _ gx rfl)
      have k5147 : H5135 m 6 = H5056 m 6 := (f5140 m 6 _ gm rfl)
      have k5148 : H5135 x 11 = H5056 x 11 := (f5140 x 11 _ gx rfl)
      have k5149 : H5135 m 13 = H5056 m 13 := (f5140 m 13 _ gm rfl)
      have k5150 : H5135 x 8 = H5056 x 8 := (f5140 x 8 _ gx rfl)
      have k5151 : H5135 m 3 = H5056 m 3 := (f5140 m 3 _ gm rfl)
      have k5152 : H5135 x 0 = H x 0 := ((f5140 x 0 _ gx rfl).trans (f5061 x 0 _ gx rfl))
      have q5153 : H5135 x 0 = (tc : Int) := k5152.trans e0
      have k5154 : H5135 m 5 = H m 5 := ((f5140 m 5 _ gm rfl).trans (f5061 m 5 _ gm rfl))
      have q5155 : H5135 m 5 = (tm : Int) := k5154.trans em
      have k5156 : H5135 x 6 = H x 6 := ((f5140 x 6 _ gx rfl).trans (f5061 x 6 _ gx rfl))
      have q5157 : H5135 x 6 = (cu : Int) := k5156.trans ecu
      have k5158 : H5135 x 7 = H x 7 := ((f5140 x 7 _ gx rfl).trans (f5061 x 7 _ gx rfl))
      have q5159 : H5135 x 7 = (dr : Int) := k5158.trans edr
      have h5160 : CEN T H5135 ce8 e8 d8 := (CEN_fr w5060 gce8 f5140 rfl p5064)
      have h5161 : TP T H5135 tc B := (TP_fr w5060 gtc f5140 rfl (TP_fr hW gtc f5061 rfl htc))
      have h5162 : TM T H5135 tm B := (TM_fr w5060 gtm f5140 rfl (TM_fr hW gtm f5061 rfl htm))
      have h5163 : DD T H5135 cu  := (DD_fr w5060 gcu f5140 rfl (DD_fr hW gcu f5061 rfl hcu))
      have h5164 : DD T H5135 dr  := (DD_fr w5060 gdr f5140 rfl (DD_fr hW gdr f5061 rfl hdr))
      have h5165 : DE T H5135 cu  := (DE_fr w5060 gcu f5140 rfl (DE_fr hW gcu f5061 rfl hdec))
      have h5166 : DE T H5135 dr  := (DE_fr w5060 gdr f5140 rfl (DE_fr hW gdr f5061 rfl hded))
      have h5167 : SP T H5135 x C8 := (SP_fr w5060 gx f5140 rfl (SP_fr hW gx f5061 rfl hsp))
      have h5168 : CU T H5135 cu e8 d8 n8 := (CU_fr w5060 gcu f5140 rfl (CU_fr hW gcu f5061 rfl hcu8))
      have h5169 : CY T H5135 cu (d8 0 3) g8 (H cu 17) := (CY_fr w5060 gcu f5140 rfl (CY_fr hW gcu f5061 rfl h5049))
      have k5170 : H5135 x 3 = H x 3 := ((f5140 x 3 _ gx rfl).trans (f5061 x 3 _ gx rfl))
      have q5171 : H5135 x 3 = (ce8 : Int) := k5170.trans ece8
      have h5172 : HDR T H5135 ce8  := (HDR_fr w5060 gce8 f5140 rfl (HDR_fr hW gce8 f5061 rfl hhdr8))
      have h5173 : RY T H5135 m (d8 0 3) g8 (H m 32) := (RY_fr w5060 gm f5140 rfl (RY_fr hW gm f5061 rfl h5050))
      have h5174 : RB T H5135 m e8 d8 := (RB_fr w5060 gm f5140 rfl h5131)
      exact WL.loc hX (by simp) (next T H5135 ⟨⟨w5139, g0, gx, gm, go, by omega, by omega⟩, ⟨_, tc, tm, cu, dr, _, _, _, _, _, ce8, q5153, gtc, h5161, q5155, gtm, h5162, q5157, gcu, q5159, gdr, h5163, h5164, h5165, h5166, h5167, hC1, hC2, h5168, h5174, (h5169).1, (h5173).1, hE, hZ, (by omega), (by assumption), (by omega), (by first | assumption | exact SG_0), q5171, gce8, h5160, h5172, a5145, gm⟩, by omega, by omega⟩ (by omega) (by omega))
