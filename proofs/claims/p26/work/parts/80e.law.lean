/-! THE LAW, GONE ON WITH (own work) -/
set_option maxHeartbeats 4000000 in
theorem wl_c29 {kt : Nat → Option mc_E} {CB SB : Nat} {X : mc_S → Prop} {T : wq_T} {H : wq_H} {Len x m o : Nat} {i : Int} (hX : wlX kt CB SB X) (hb : T.2.1 ≤ CB ∧ T.2.2.1 ≤ SB) (hI : wlJ Len x m o T H) (hL : Len ≤ 3072) (hi : 0 ≤ i ∧ i + 6 ≤ Len) (hb2 : T.2.1 + 20 ≤ CB ∧ T.2.2.1 + 500 ≤ SB)  (next : ∀ T' H', wlJ Len x m o T' H' → T'.2.1 ≤ T.2.1 + 20 → T'.2.2.1 ≤ T.2.2.1 + 500 → WL kt CB SB X 1654 (wlL i x m o) [] T' H') : WL kt CB SB X 1110 (wlL i x m o) [] T H := by
  obtain ⟨⟨hW, g0, gx, gm, go, hK, hr⟩, hXI, hY1, hY2⟩ := hI
  refine wl_of hX hb cL_1110 (rw_aload_n (pc' := 1111) (v := .ref x) rfl rfl rfl ?_)
  refine wl_of hX hb cL_1111 (rw_aload_n (pc' := 1112) (v := .ref 0) rfl rfl rfl ?_)
  refine wl_of hX hb cL_1112 (rw_iload (pc' := 1114) (z := i) rfl rfl ?_)
  refine wl_of hX hb cL_1114 (rw_iconst (pc' := 1115) rfl ?_)
  refine wl_of hX hb cL_1115 (rw_iadd (pc' := 1116) rfl ?_)
  refine wl_of hX hb cL_1116 (xa_I (so := 0) (pc' := 1117) (a := 0) hW g0 (wsh_s _) (by omega) (wty_s _ _) (by omega) (by omega) rfl (fun b4397 b4398 => ?_))
  refine wl_of hX hb cL_1117 (rw_aload_n (pc' := 1118) (v := .ref 0) rfl rfl rfl ?_)
  refine wl_of hX hb cL_1118 (rw_iload (pc' := 1120) (z := i) rfl rfl ?_)
  refine wl_of hX hb cL_1120 (rw_iconst (pc' := 1121) rfl ?_)
  refine wl_of hX hb cL_1121 (rw_iadd (pc' := 1122) rfl ?_)
  refine wl_of hX hb cL_1122 (xa_I (so := 0) (pc' := 1123) (a := 0) hW g0 (wsh_s _) (by omega) (wty_s _ _) (by omega) (by omega) rfl (fun b4399 b4400 => ?_))
  refine wl_of hX hb cL_1123 (rw_if_eq (p1 := 1130) (p2 := 1126) (by decide) rfl ⟨by omega, by omega⟩ (fun c4401 => ?_) (fun c4401 => ?_))
  · refine wl_of hX hb cL_1130 (rw_iconst (pc' := 1131) rfl ?_)
    obtain ⟨B, tc, tm, cu, dr, C8, e8, d8, n8, g8, ce8, e0, gtc, htc, em, gtm, htm, ecu, gcu, edr, gdr, hcu, hdr, hdec, hded, hsp, hC1, hC2, hcu8, hrb8, hcg8, hmn8, hE, hZ, hn8, hXA, hV8, hSG, ece8, gce8, hcen8, hhdr8, hknn8, -⟩ := hXI
    have hN3 := RB_n3 hrb8
    have hE13 : ∀ h : Nat, h < 24 → 0 ≤ e8 13 h ∧ e8 13 h ≤ 100 := fun k hk => by
      obtain ⟨s, h1, h2, h3⟩ := hcu8.1.2.2.1
      exact ⟨(h3 k hk).1, (h3 k hk).2.1⟩
    have hXW := hXA.1
    have hXN := hXA.2
    have hE0 : e8 0 3 = d8 0 3 ∧ e8 0 0 = d8 0 0 := by
      have h := hE 0 (by decide)
      exact ⟨congrFun h 3, congrFun h 0⟩
    have u4402 := CU_k hcu8
    have h4403 : CY T H cu (d8 0 3) g8 (H cu 17) := ⟨hcg8, rfl⟩
    have h4404 : RY T H m (d8 0 3) g8 (H m 32) := ⟨hmn8, rfl⟩
    obtain ⟨t9, ht9⟩ : ∃ t : Int, t = H x 9 := ⟨_, rfl⟩
    obtain ⟨y9, hy9⟩ : ∃ y : Int, y = 0 := ⟨_, rfl⟩
    obtain ⟨r4405, q4406, g4407⟩ := hW.ref gx (t' := 6) (n := 13) (j := 2) (p := 0) (q := 0) rfl (by decide) rfl
    refine wl_of hX hb cL_1131 (xc_V (pc' := 1134) (r := x) (as := [vI (H 0 ((i + 1).toNat)), vI 0]) (st := []) (lm_11_143) rfl rfl (Nat.le_of_ble_eq_true rfl) hW gx sh_1 (by decide) rfl (by decide) (u_119 (e := e8) (d := d8) (n := n8) hW gx ⟨by omega, by omega⟩ ⟨by decide, by decide⟩ ecu gcu q4406 g4407 ece8 gce8 (by assumption) (by assumption) (by omega) (by omega) (by omega) (by omega) hcu8 hcen8 hhdr8) (fun R4408 T4409 H4410 p4411 => ?_))
    obtain ⟨e4412, w4414, f4415, z4416, e4413, b4417, p4418⟩ := p4411
    subst e4412
    subst e4413
    show WL _ _ _ _ 1134 [(4, vI i), (3, .ref o), (2, .ref m), (1, .ref x), (0, .ref 0)] [vI z4416] _ H4410
    refine wl_of hX hb cL_1134 (rw_pop (pc' := 1135) rfl rfl ?_)
    refine wl_of hX hb cL_1135 (rw_aload_n (pc' := 1136) (v := .ref m) rfl rfl rfl ?_)
    refine wl_of hX hb cL_1136 (rw_aload_n (pc' := 1137) (v := .ref 0) rfl rfl rfl ?_)
    refine wl_of hX hb cL_1137 (rw_iload (pc' := 1139) (z := i) rfl rfl ?_)
    refine wl_of hX hb cL_1139 (rw_iconst (pc' := 1140) rfl ?_)
    refine wl_of hX hb cL_1140 (rw_iadd (pc' := 1141) rfl ?_)
    have k4422 : H4410 0 ((i + 1).toNat) = H 0 ((i + 1).toNat) := (f4415 0 ((i + 1).toNat) _ g0 (wmem_s rfl))
    refine wl_of hX hb cL_1141 (xa_I (so := 0) (pc' := 1142) (a := 0) w4414 g0 (wsh_s _) (by omega) (wty_s _ _) (by omega) (by omega) rfl (fun b4420 b4421 => ?_))
    refine wl_of hX hb cL_1142 (rw_aload_n (pc' := 1143) (v := .ref 0) rfl rfl rfl ?_)
    refine wl_of hX hb cL_1143 (rw_iload (pc' := 1145) (z := i) rfl rfl ?_)
    refine wl_of hX hb cL_1145 (rw_iconst (pc' := 1146) rfl ?_)
    refine wl_of hX hb cL_1146 (rw_iadd (pc' := 1147) rfl ?_)
    have k4425 : H4410 0 ((i + 2).toNat) = H 0 ((i + 2).toNat) := (f4415 0 ((i + 2).toNat) _ g0 (wmem_s rfl))
    refine wl_of hX hb cL_1147 (xa_I (so := 0) (pc' := 1148) (a := 0) w4414 g0 (wsh_s _) (by omega) (wty_s _ _) (by omega) (by omega) rfl (fun b4423 b4424 => ?_))
    refine wl_of hX hb cL_1148 (rw_if_eq (p1 := 1155) (p2 := 1151) (by decide) rfl ⟨by omega, by omega⟩ (fun c4426 => ?_) (fun c4426 => ?_))
    · refine wl_of hX hb cL_1155 (rw_iconst (pc' := 1156) rfl ?_)
      have k4427 : wKI H4410 m = wKI H m := (wKI_fr hW gm f4415 rfl)
      have k4428 : H4410 x 9 = H x 9 := (f4415 x 9 _ gx rfl)
      have k4429 : H4410 m 6 = H m 6 := (f4415 m 6 _ gm rfl)
      have k4430 : H4410 x 11 = H x 11 := (f4415 x 11 _ gx rfl)
      have k4431 : H4410 m 13 = H m 13 := (f4415 m 13 _ gm rfl)
      have k4432 : H4410 x 8 = H x 8 := (f4415 x 8 _ gx rfl)
      have k4433 : H4410 m 3 = H m 3 := (f4415 m 3 _ gm rfl)
      rw [show H4410 0 ((i + 1).toNat) = H 0 ((i + 1).toNat) by omega]
      have h4434 : RB T H4410 m e8 d8 := (RB_fr hW gm f4415 rfl hrb8)
      have h4435 : KNN T H4410 m e8 d8 := (KNN_fr hW gm f4415 rfl hknn8)
      refine wl_of hX hb cL_1156 (xc_V (pc' := 1159) (r := m) (as := [vI (H 0 ((i + 1).toNat)), vI 0]) (st := []) (lm_11_146) rfl rfl (Nat.le_of_ble_eq_true rfl) w4414 gm sh_42 (by decide) rfl (by decide) (u_265 (e := e8) (d := d8) w4414 gm ⟨by omega, by omega⟩ ⟨by decide, by decide⟩ (by omega) (by assumption) (by assumption) (by assumption) (by assumption) h4434 h4435) (fun R4436 T4437 H4438 p4439 => ?_))
      obtain ⟨e4440, w4442, f4443, z4444, e4441, b4445, p4446⟩ := p4439
      subst e4440
      subst e4441
      obtain ⟨a4447, a4448⟩ := p4446
      show WL _ _ _ _ 1159 [(4, vI i), (3, .ref o), (2, .ref m), (1, .ref x), (0, .ref 0)] [vI z4444] _ H4438
      refine wl_of hX hb cL_1159 (rw_pop (pc' := 1160) rfl rfl ?_)
      refine wl_of hX hb cL_1160 (rw_goto (p1 := 1654) (by decide) ?_)
      have k4449 : H4438 x 9 = H4410 x 9 := (f4443 x 9 _ gx rfl)
      have k4450 : H4438 m 6 = H4410 m 6 := (f4443 m 6 _ gm rfl)
      have k4451 : H4438 x 11 = H4410 x 11 := (f4443 x 11 _ gx rfl)
      have k4452 : H4438 m 13 = H4410 m 13 := (f4443 m 13 _ gm rfl)
      have k4453 : H4438 x 8 = H4410 x 8 := (f4443 x 8 _ gx rfl)
      have k4454 : H4438 m 3 = H4410 m 3 := (f4443 m 3 _ gm rfl)
      have k4455 : H4438 x 0 = H x 0 := ((f4443 x 0 _ gx rfl).trans (f4415 x 0 _ gx rfl))
      have q4456 : H4438 x 0 = (tc : Int) := k4455.trans e0
      have k4457 : H4438 m 5 = H m 5 := ((f4443 m 5 _ gm rfl).trans (f4415 m 5 _ gm rfl))
      have q4458 : H4438 m 5 = (tm : Int) := k4457.trans em
      have k4459 : H4438 x 6 = H x 6 := ((f4443 x 6 _ gx rfl).trans (f4415 x 6 _ gx rfl))
      have q4460 : H4438 x 6 = (cu : Int) := k4459.trans ecu
      have k4461 : H4438 x 7 = H x 7 := ((f4443 x 7 _ gx rfl).trans (f4415 x 7 _ gx rfl))
      have q4462 : H4438 x 7 = (dr : Int) := k4461.trans edr
      have h4463 : CEN T H4438 ce8 e8 d8 := (CEN_fr w4414 gce8 f4443 rfl p4418)
      have h4464 : TP T H4438 tc B := (TP_fr w4414 gtc f4443 rfl (TP_fr hW gtc f4415 rfl htc))
      have h4465 : TM T H4438 tm B := (TM_fr w4414 gtm f4443 rfl (TM_fr hW gtm f4415 rfl htm))
      have h4466 : DD T H4438 cu  := (DD_fr w4414 gcu f4443 rfl (DD_fr hW gcu f4415 rfl hcu))
      have h4467 : DD T H4438 dr  := (DD_fr w4414 gdr f4443 rfl (DD_fr hW gdr f4415 rfl hdr))
      have h4468 : DE T H4438 cu  := (DE_fr w4414 gcu f4443 rfl (DE_fr hW gcu f4415 rfl hdec))
      have h4469 : DE T H4438 dr  := (DE_fr w4414 gdr f4443 rfl (DE_fr hW gdr f4415 rfl hded))
      have h4470 : SP T H4438 x C8 := (SP_fr w4414 gx f4443 rfl (SP_fr hW gx f4415 rfl hsp))
      have h4471 : CU T H4438 cu e8 d8 n8 := (CU_fr w4414 gcu f4443 rfl (CU_fr hW gcu f4415 rfl hcu8))
      have h4472 : CY T H4438 cu (d8 0 3) g8 (H cu 17) := (CY_fr w4414 gcu f4443 rfl (CY_fr hW gcu f4415 rfl h4403))
      have k4473 : H4438 x 3 = H x 3 := ((f4443 x 3 _ gx rfl).trans (f4415 x 3 _ gx rfl))
      have q4474 : H4438 x 3 = (ce8 : Int) := k4473.trans ece8
      have h4475 : HDR T H4438 ce8  := (HDR_fr w4414 gce8 f4443 rfl (HDR_fr hW gce8 f4415 rfl hhdr8))
      have h4476 : RY T H4438 m (d8 0 3) g8 (H m 32) := (RY_fr w4414 gm f4443 rfl (RY_fr hW gm f4415 rfl h4404))
      have h4477 : RB T H4438 m e8 d8 := (RB_fr w4414 gm f4443 rfl h4434)
      exact WL.loc hX (by simp) (next T H4438 ⟨⟨w4442, g0, gx, gm, go, by omega, by omega⟩, ⟨_, tc, tm, cu, dr, _, _, _, _, _, ce8, q4456, gtc, h4464, q4458, gtm, h4465, q4460, gcu, q4462, gdr, h4466, h4467, h4468, h4469, h4470, hC1, hC2, h4471, h4477, (h4472).1, (h4476).1, hE, hZ, (by omega), (by assumption), (by omega), (by first | assumption | exact SG_0), q4474, gce8, h4463, h4475, a4448, gm⟩, by omega, by omega⟩ (by omega) (by omega))
    · exfalso
      omega
  · refine wl_of hX hb cL_1126 (rw_iconst (pc' := 1127) rfl ?_)
    refine wl_of hX hb cL_1127 (rw_goto (p1 := 1131) (by decide) ?_)
    obtain ⟨B, tc, tm, cu, dr, C8, e8, d8, n8, g8, ce8, e0, gtc, htc, em, gtm, htm, ecu, gcu, edr, gdr, hcu, hdr, hdec, hded, hsp, hC1, hC2, hcu8, hrb8, hcg8, hmn8, hE, hZ, hn8, hXA, hV8, hSG, ece8, gce8, hcen8, hhdr8, hknn8, -⟩ := hXI
    have hN3 := RB_n3 hrb8
    have hE13 : ∀ h : Nat, h < 24 → 0 ≤ e8 13 h ∧ e8 13 h ≤ 100 := fun k hk => by
      obtain ⟨s, h1, h2, h3⟩ := hcu8.1.2.2.1
      exact ⟨(h3 k hk).1, (h3 k hk).2.1⟩
    have hXW := hXA.1
    have hXN := hXA.2
    have hE0 : e8 0 3 = d8 0 3 ∧ e8 0 0 = d8 0 0 := by
      have h := hE 0 (by decide)
      exact ⟨congrFun h 3, congrFun h 0⟩
    have u4478 := CU_k hcu8
    have h4479 : CY T H cu (d8 0 3) g8 (H cu 17) := ⟨hcg8, rfl⟩
    have h4480 : RY T H m (d8 0 3) g8 (H m 32) := ⟨hmn8, rfl⟩
    obtain ⟨t9, ht9⟩ : ∃ t : Int, t = H x 9 := ⟨_, rfl⟩
    obtain ⟨y9, hy9⟩ : ∃ y : Int, y = 1 := ⟨_, rfl⟩
    obtain ⟨r4481, q4482, g4483⟩ := hW.ref gx (t' := 6) (n := 13) (j := 2) (p := 0) (q := 0) rfl (by decide) rfl
    refine wl_of hX hb cL_1131 (xc_V (pc' := 1134) (r := x) (as := [vI (H 0 ((i + 1).toNat)), vI 1]) (st := []) (lm_11_143) rfl rfl (Nat.le_of_ble_eq_true rfl) hW gx sh_1 (by decide) rfl (by decide) (u_119 (e := e8) (d := d8) (n := n8) hW gx ⟨by omega, by omega⟩ ⟨by decide, by decide⟩ ecu gcu q4482 g4483 ece8 gce8 (by assumption) (by assumption) (by omega) (by omega) (by omega) (by omega) hcu8 hcen8 hhdr8) (fun R4484 T4485 H4486 p4487 => ?_))
    obtain ⟨e4488, w4490, f4491, z4492, e4489, b4493, p4494⟩ := p4487
    subst e4488
    subst e4489
    show WL _ _ _ _ 1134 [(4, vI i), (3, .ref o), (2, .ref m), (1, .ref x), (0, .ref 0)] [vI z4492] _ H4486
    refine wl_of hX hb cL_1134 (rw_pop (pc' := 1135) rfl rfl ?_)
    refine wl_of hX hb cL_1135 (rw_aload_n (pc' := 1136) (v := .ref m) rfl rfl rfl ?_)
    refine wl_of hX hb cL_1136 (rw_aload_n (pc' := 1137) (v := .ref 0) rfl rfl rfl ?_)
    refine wl_of hX hb cL_1137 (rw_iload (pc' := 1139) (z := i) rfl rfl ?_)
    refine wl_of hX hb cL_1139 (rw_iconst (pc' := 1140) rfl ?_)
    refine wl_of hX hb cL_1140 (rw_iadd (pc' := 1141) rfl ?_)
    have k4498 : H4486 0 ((i + 1).toNat) = H 0 ((i + 1).toNat) := (f4491 0 ((i + 1).toNat) _ g0 (wmem_s rfl))
    refine wl_of hX hb cL_1141 (xa_I (so := 0) (pc' := 1142) (a := 0) w4490 g0 (wsh_s _) (by omega) (wty_s _ _) (by omega) (by omega) rfl (fun b4496 b4497 => ?_))
    refine wl_of hX hb cL_1142 (rw_aload_n (pc' := 1143) (v := .ref 0) rfl rfl rfl ?_)
    refine wl_of hX hb cL_1143 (rw_iload (pc' := 1145) (z := i) rfl rfl ?_)
    refine wl_of hX hb cL_1145 (rw_iconst (pc' := 1146) rfl ?_)
    refine wl_of hX hb cL_1146 (rw_iadd (pc' := 1147) rfl ?_)
    have k4501 : H4486 0 ((i + 2).toNat) = H 0 ((i + 2).toNat) := (f4491 0 ((i + 2).toNat) _ g0 (wmem_s rfl))
    refine wl_of hX hb cL_1147 (xa_I (so := 0) (pc' := 1148) (a := 0) w4490 g0 (wsh_s _) (by omega) (wty_s _ _) (by omega) (by omega) rfl (fun b4499 b4500 => ?_))
    refine wl_of hX hb cL_1148 (rw_if_eq (p1 := 1155) (p2 := 1151) (by decide) rfl ⟨by omega, by omega⟩ (fun c4502 => ?_) (fun c4502 => ?_))
    · refine wl_of hX hb cL_1155 (rw_iconst (pc' := 1156) rfl ?_)
      have k4503 : wKI H4486 m = wKI H m := (wKI_fr hW gm f4491 rfl)
      have k4504 : H4486 x 9 = H x 9 := (f4491 x 9 _ gx rfl)
      have k4505 : H4486 m 6 = H m 6 := (f4491 m 6 _ gm rfl)
      have k4506 : H4486 x 11 = H x 11 := (f4491 x 11 _ gx rfl)
      have k4507 : H4486 m 13 = H m 13 := (f4491 m 13 _ gm rfl)
      have k4508 : H4486 x 8 = H x 8 := (f4491 x 8 _ gx rfl)
      have k4509 : H4486 m 3 = H m 3 := (f4491 m 3 _ gm rfl)
      rw [show H4486 0 ((i + 1).toNat) = H 0 ((i + 1).toNat) by omega]
      have h4510 : RB T H4486 m e8 d8 := (RB_fr hW gm f4491 rfl hrb8)
      have h4511 : KNN T H4486 m e8 d8 := (KNN_fr hW gm f4491 rfl hknn8)
      refine wl_of hX hb cL_1156 (xc_V (pc' := 1159) (r := m) (as := [vI (H 0 ((i + 1).toNat)), vI 0]) (st := []) (lm_11_146) rfl rfl (Nat.le_of_ble_eq_true rfl) w4490 gm sh_42 (by decide) rfl (by decide) (u_265 (e := e8) (d := d8) w4490 gm ⟨by omega, by omega⟩ ⟨by decide, by decide⟩ (by omega) (by assumption) (by assumption) (by assumption) (by assumption) h4510 h4511) (fun R4512 T4513 H4514 p4515 => ?_))
      obtain ⟨e4516, w4518, f4519, z4520, e4517, b4521, p4522⟩ := p4515
      subst e4516
      subst e4517
      obtain ⟨a4523, a4524⟩ := p4522
      show WL _ _ _ _ 1159 [(4, vI i), (3, .ref o), (2, .ref m), (1, .ref x), (0, .ref 0)] [vI z4520] _ H4514
      refine wl_of hX hb cL_1159 (rw_pop (pc' := 1160) rfl rfl ?_)
      refine wl_of hX hb cL_1160 (rw_goto (p1 := 1654) (by decide) ?_)
      have k4525 : H4514 x 9 = H4486 x 9 := (f4519 x 9 _ gx rfl)
      have k4526 : H4514 m 6 = H4486 m 6 := (f4519 m 6 _ gm rfl)
      have k4527 : H4514 x 11 = H4486 x 11 := (f4519 x 11 _ gx rfl)
      have k4528 : H4514 m 13 = H4486 m 13 := (f4519 m 13 _ gm rfl)
      have k4529 : H4514 x 8 = H4486 x 8 := (f4519 x 8 _ gx rfl)
      have k4530 : H4514 m 3 = H4486 m 3 := (f4519 m 3 _ gm rfl)
      have k4531 : H4514 x 0 = H x 0 := ((f4519 x 0 _ gx rfl).trans (f4491 x 0 _ gx rfl))
      have q4532 : H4514 x 0 = (tc : Int) := k4531.trans e0
      have k4533 : H4514 m 5 = H m 5 := ((f4519 m 5 _ gm rfl).trans (f4491 m 5 _ gm rfl))
      have q4534 : H4514 m 5 = (tm : Int) := k4533.trans em
      have k4535 : H4514 x 6 = H x 6 := ((f4519 x 6 _ gx rfl).trans (f4491 x 6 _ gx rfl))
      have q4536 : H4514 x 6 = (cu : Int) := k4535.trans ecu
      have k4537 : H4514 x 7 = H x 7 := ((f4519 x 7 _ gx rfl).trans (f4491 x 7 _ gx rfl))
      have q4538 : H4514 x 7 = (dr : Int) := k4537.trans edr
      have h4539 : CEN T H4514 ce8 e8 d8 := (CEN_fr w4490 gce8 f4519 rfl p4494)
      have h4540 : TP T H4514 tc B := (TP_fr w4490 gtc f4519 rfl (TP_fr hW gtc f4491 rfl htc))
      have h4541 : TM T H4514 tm B := (TM_fr w4490 gtm f4519 rfl (TM_fr hW gtm f4491 rfl htm))
      have h4542 : DD T H4514 cu  := (DD_fr w4490 gcu f4519 rfl (DD_fr hW gcu f4491 rfl hcu))
      have h4543 : DD T H4514 dr  := (DD_fr w4490 gdr f4519 rfl (DD_fr hW gdr f4491 rfl hdr))
      have h4544 : DE T H4514 cu  := (DE_fr w4490 gcu f4519 rfl (DE_fr hW gcu f4491 rfl hdec))
      have h4545 : DE T H4514 dr  := (DE_fr w4490 gdr f4519 rfl (DE_fr hW gdr f4491 rfl hded))
      have h4546 : SP T H4514 x C8 := (SP_fr w4490 gx f4519 rfl (SP_fr hW gx f4491 rfl hsp))
      have h4547 : CU T H4514 cu e8 d8 n8 := (CU_fr w4490 gcu f4519 rfl (CU_fr hW gcu f4491 rfl hcu8))
      have h4548 : CY T H4514 cu (d8 0 3) g8 (H cu 17) := (CY_fr w4490 gcu f4519 rfl (CY_fr hW gcu f4491 rfl h4479))
      have k4549 : H4514 x 3 = H x 3 := ((f4519 x 3 _ gx rfl).trans (f4491 x 3 _ gx rfl))
      have q4550 : H4514 x 3 = (ce8 : Int) := k4549.trans ece8
      have h4551 : HDR T H4514 ce8  := (HDR_fr w4490 gce8 f4519 rfl (HDR_fr hW gce8 f4491 rfl hhdr8))
      have h4552 : RY T H4514 m (d8 0 3) g8 (H m 32) := (RY_fr w4490 gm f4519 rfl (RY_fr hW gm f4491 rfl h4480))
      have h4553 : RB T H4514 m e8 d8 := (RB_fr w4490 gm f4519 rfl h4510)
      exact WL.loc hX (by simp) (next T H4514 ⟨⟨w4518, g0, gx, gm, go, by omega, by omega⟩, ⟨_, tc, tm, cu, dr, _, _, _, _, _, ce8, q4532, gtc, h4540, q4534, gtm, h4541, q4536, gcu, q4538, gdr, h4542, h4543, h4544, h4545, h4546, hC1, hC2, h4547, h4553, (h4548).1, (h4552).1, hE, hZ, (by omega), (by assumption), (by omega), (by first | assumption | exact SG_0), q4550, gce8, h4539, h4551, a4524, gm⟩, by omega, by omega⟩ (by omega) (by omega))
    · refine wl_of hX hb cL_1151 (rw_iconst (pc' := 1152) rfl ?_)
      refine wl_of hX hb cL_1152 (rw_goto (p1 := 1156) (by decide) ?_)
      have k4554 : wKI H4486 m = wKI H m := (wKI_fr hW gm f4491 rfl)
      have k4555 : H4486 x 9 = H x 9 := (f4491 x 9 _ gx rfl)
      have k4556 : H4486 m 6 = H m 6 := (f4491 m 6 _ gm rfl)
      have k4557 : H4486 x 11 = H x 11 := (f4491 x 11 _ gx rfl)
      have k4558 : H4486 m 13 = H m 13 := (f4491 m 13 _ gm rfl)
      have k4559 : H4486 x 8 = H x 8 := (f4491 x 8 _ gx rfl)
      have k4560 : H4486 m 3 = H m 3 := (f4491 m 3 _ gm rfl)
      rw [show H4486 0 ((i + 1).toNat) = H 0 ((i + 1).toNat) by omega]
      have h4561 : RB T H4486 m e8 d8 := (RB_fr hW gm f4491 rfl hrb8)
      have h4562 : KNN T H4486 m e8 d8 := (KNN_fr hW gm f4491 rfl hknn8)
      refine wl_of hX hb cL_1156 (xc_V (pc' := 1159) (r := m) (as := [vI (H 0 ((i + 1).toNat)), vI 1]) (st := []) (lm_11_146) rfl rfl (Nat.le_of_ble_eq_true rfl) w4490 gm sh_42 (by decide) rfl (by decide) (u_265 (e := e8) (d := d8) w4490 gm ⟨by omega, by omega⟩ ⟨by decide, by decide⟩ (by omega) (by assumption) (by assumption) (by assumption) (by assumption) h4561 h4562) (fun R4563 T4564 H4565 p4566 => ?_))
      obtain ⟨e4567, w4569, f4570, z4571, e4568, b4572, p4573⟩ := p4566
      subst e4567
      subst e4568
      obtain ⟨a4574, a4575⟩ := p4573
      show WL _ _ _ _ 1159 [(4, vI i), (3, .ref o), (2, .ref m), (1, .ref x), (0, .ref 0)] [vI z4571] _ H4565
      refine wl_of hX hb cL_1159 (rw_pop (pc' := 1160) rfl rfl ?_)
      refine wl_of hX hb cL_1160 (rw_goto (p1 := 1654) (by decide) ?_)
      have k4576 : H4565 x 9 = H4486 x 9 := (f4570 x 9 _ gx rfl)
      have k4577 : H4565 m 6 = H4486 m 6 := (f4570 m 6 _ gm rfl)
      have k4578 : H4565 x 11 = H4486 x 11 := (f4570 x 11 _ gx rfl)
      have k4579 : H4565 m 13 = H4486 m 13 := (f4570 m 13 _ gm rfl)
      have k4580 : H4565 x 8 = H4486 x 8 := (f4570 x 8 _ gx rfl)
      have k4581 : H4565 m 3 = H4486 m 3 := (f4570 m 3 _ gm rfl)
      have k4582 : H4565 x 0 = H x 0 := ((f4570 x 0 _ gx rfl).trans (f4491 x 0 _ gx rfl))
      have q4583 : H4565 x 0 = (tc : Int) := k4582.trans e0
      have k4584 : H4565 m 5 = H m 5 := ((f4570 m 5 _ gm rfl).trans (f4491 m 5 _ gm rfl))
      have q4585 : H4565 m 5 = (tm : Int) := k4584.trans em
      have k4586 : H4565 x 6 = H x 6 := ((f4570 x 6 _ gx rfl).trans (f4491 x 6 _ gx rfl))
      have q4587 : H4565 x 6 = (cu : Int) := k4586.trans ecu
      have k4588 : H4565 x 7 = H x 7 := ((f4570 x 7 _ gx rfl).trans (f4491 x 7 _ gx rfl))
      have q4589 : H4565 x 7 = (dr : Int) := k4588.trans edr
      have h4590 : CEN T H4565 ce8 e8 d8 := (CEN_fr w4490 gce8 f4570 rfl p4494)
      have h4591 : TP T H4565 tc B := (TP_fr w4490 gtc f4570 rfl (TP_fr hW gtc f4491 rfl htc))
      have h4592 : TM T H4565 tm B := (TM_fr w4490 gtm f4570 rfl (TM_fr hW gtm f4491 rfl htm))
      have h4593 : DD T H4565 cu  := (DD_fr w4490 gcu f4570 rfl (DD_fr hW gcu f4491 rfl hcu))
      have h4594 : DD T H4565 dr  := (DD_fr w4490 gdr f4570 rfl (DD_fr hW gdr f4491 rfl hdr))
      have h4595 : DE T H4565 cu  := (DE_fr w4490 gcu f4570 rfl (DE_fr hW gcu f4491 rfl hdec))
      have h4596 : DE T H4565 dr  := (DE_fr w4490 gdr f4570 rfl (DE_fr hW gdr f4491 rfl hded))
      have h4597 : SP T H4565 x C8 := (SP_fr w4490 gx f4570 rfl (SP_fr hW gx f4491 rfl hsp))
      have h4598 : CU T H4565 cu e8 d8 n8 := (CU_fr w4490 gcu f4570 rfl (CU_fr hW gcu f4491 rfl hcu8))
      have h4599 : CY T H4565 cu (d8 0 3) g8 (H cu 17) := (CY_fr w4490 gcu f4570 rfl (CY_fr hW gcu f4491 rfl h4479))
      have k4600 : H4565 x 3 = H x 3 := ((f4570 x 3 _ gx rfl).trans (f4491 x 3 _ gx rfl))
      have q4601 : H4565 x 3 = (ce8 : Int) := k4600.trans ece8
      have h4602 : HDR T H4565 ce8  := (HDR_fr w4490 gce8 f4570 rfl (HDR_fr hW gce8 f4491 rfl hhdr8))
      have h4603 : RY T H4565 m (d8 0 3) g8 (H m 32) := (RY_fr w4490 gm f4570 rfl (RY_fr hW gm f4491 rfl h4480))
      have h4604 : RB T H4565 m e8 d8 := (RB_fr w4490 gm f4570 rfl h4561)
      exact WL.loc hX (by simp) (next T H4565 ⟨⟨w4569, g0, gx, gm, go, by omega, by omega⟩, ⟨_, tc, tm, cu, dr, _, _, _, _, _, ce8, q4583, gtc, h4591, q4585, gtm, h4592, q4587, gcu, q4589, gdr, h4593, h4594, h4595, h4596, h4597, hC1, hC2, h4598, h4604, (h4599).1, (h4603).1, hE, hZ, (by omega), (by assumption), (by omega), (by first | assumption | exact SG_0), q4601, gce8, h4590, h4602, a4575, gm⟩, by omega, by omega⟩ (by omega) (by omega))
set_option maxHeartbeats 4000000 in
theorem wl_c30 {kt : Nat → Option mc_E} {CB SB : Nat} {X : mc_S → Prop} {T : wq_T} {H : wq_H} {Len x m o : Nat} {i : Int} (hX : wlX kt CB SB X) (hb : T.2.1 ≤ CB ∧ T.2.2.1 ≤ SB) (hI : wlJ Len x m o T H) (hL : Len ≤ 3072) (hi : 0 ≤ i ∧ i + 6 ≤ Len) (hb2 : T.2.1 + 20 ≤ CB ∧ T.2.2.1 + 500 ≤ SB)  (next : ∀ T' H', wlJ Len x m o T' H' → T'.2.1 ≤ T.2.1 + 20 → T'.2.2.1 ≤ T.2.2.1 + 500 → WL kt CB SB X 1654 (wlL i x m o) [] T' H') : WL kt CB SB X 1163 (wlL i x m o) [] T H := by
  obtain ⟨⟨hW, g0, gx, gm, go, hK, hr⟩, hXI, hY1, hY2⟩ := hI
  refine wl_of hX hb cL_1163 (rw_aload_n (pc' := 1164) (v := .ref x) rfl rfl rfl ?_)
  obtain ⟨B, tc, tm, cu, dr, C8, e8, d8, n8, g8, ce8, e0, gtc, htc, em, gtm, htm, ecu, gcu, edr, gdr, hcu, hdr, hdec, hded, hsp, hC1, hC2, hcu8, hrb8, hcg8, hmn8, hE, hZ, hn8, hXA, hV8, hSG, ece8, gce8, hcen8, hhdr8, hknn8, -⟩ := hXI
  have hN3 := RB_n3 hrb8
  have hE13 : ∀ h : Nat, h < 24 → 0 ≤ e8 13 h ∧ e8 13 h ≤ 100 := fun k hk => by
    obtain ⟨s, h1, h2, h3⟩ := hcu8.1.2.2.1
    exact ⟨(h3 k hk).1, (h3 k hk).2.1⟩
  have hXW := hXA.1
  have hXN := hXA.2
  have hE0 : e8 0 3 = d8 0 3 ∧ e8 0 0 = d8 0 0 := by
    have h := hE 0 (by decide)
    exact ⟨congrFun h 3, congrFun h 0⟩
  have u4605 := CU_k hcu8
  have h4606 : CY T H cu (d8 0 3) g8 (H cu 17) := ⟨hcg8, rfl⟩
  have h4607 : RY T H m (d8 0 3) g8 (H m 32) := ⟨hmn8, rfl⟩
  obtain ⟨t9, ht9⟩ : ∃ t : Int, t = H x 9 := ⟨_, rfl⟩
  obtain ⟨r4608, q4609, g4610⟩ := hW.ref gx (t' := 6) (n := 13) (j := 2) (p := 0) (q := 0) rfl (by decide) rfl
  refine wl_of hX hb cL_1164 (xc_V (pc' := 1167) (r := x) (as := []) (st := []) (lm_11_147) rfl rfl (Nat.le_of_ble_eq_true rfl) hW gx sh_1 (by decide) rfl (by decide) (u_120 (e := e8) (d := d8) (n := n8) hW gx ecu gcu q4609 g4610 ece8 gce8 (by assumption) (by assumption) (by omega) (by omega) (by omega) (by omega) hcu8 hcen8 hhdr8) (fun R4611 T4612 H4613 p4614 => ?_))
  obtain ⟨e4615, w4617, f4618, z4619, e4616, b4620, p4621⟩ := p4614
  subst e4615
  subst e4616
  show WL _ _ _ _ 1167 [(4, vI i), (3, .ref o), (2, .ref m), (1, .ref x), (0, .ref 0)] [vI z4619] _ H4613
  refine wl_of hX hb cL_1167 (rw_pop (pc' := 1168) rfl rfl ?_)
  refine wl_of hX hb cL_1168 (rw_aload_n (pc' := 1169) (v := .ref m) rfl rfl rfl ?_)
  have k4623 : wKI H4613 m = wKI H m := (wKI_fr hW gm f4618 rfl)
  have k4624 : H4613 x 9 = H x 9 := (f4618 x 9 _ gx rfl)
  have k4625 : H4613 m 6 = H m 6 := (f4618 m 6 _ gm rfl)
  have k4626 : H4613 x 11 = H x 11 := (f4618 x 11 _ gx rfl)
  have k4627 : H4613 m 13 = H m 13 := (f4618 m 13 _ gm rfl)
  have k4628 : H4613 x 8 = H x 8 := (f4618 x 8 _ gx rfl)
  have k4629 : H4613 m 3 = H m 3 := (f4618 m 3 _ gm rfl)
  have h4630 : RB T H4613 m e8 d8 := (RB_fr hW gm f4618 rfl hrb8)
  have h4631 : KNN T H4613 m e8 d8 := (KNN_fr hW gm f4618 rfl hknn8)
  refine wl_of hX hb cL_1169 (xc_V (pc' := 1172) (r := m) (as := []) (st := []) (lm_11_150) rfl rfl (Nat.le_of_ble_eq_true rfl) w4617 gm sh_42 (by decide) rfl (by decide) (u_266 (e := e8) (d := d8) w4617 gm (by omega) (by assumption) (by assumption) (by assumption) (by assumption) h4630 h4631) (fun R4632 T4633 H4634 p4635 => ?_))
  obtain ⟨e4636, w4638, f4639, z4640, e4637, b4641, p4642⟩ := p4635
  subst e4636
  subst e4637
  obtain ⟨a4643, a4644⟩ := p4642
  show WL _ _ _ _ 1172 [(4, vI i), (3, .ref o), (2, .ref m), (1, .ref x), (0, .ref 0)] [vI z4640] _ H4634
  refine wl_of hX hb cL_1172 (rw_pop (pc' := 1173) rfl rfl ?_)
  refine wl_of hX hb cL_1173 (rw_goto (p1 := 1654) (by decide) ?_)
  have k4645 : H4634 x 9 = H4613 x 9 := (f4639 x 9 _ gx rfl)
  have k4646 : H4634 m 6 = H4613 m 6 := (f4639 m 6 _ gm rfl)
  have k4647 : H4634 x 11 = H4613 x 11 := (f4639 x 11 _ gx rfl)
  have k4648 : H4634 m 13 = H4613 m 13 := (f4639 m 13 _ gm rfl)
  have k4649 : H4634 x 8 = H4613 x 8 := (f4639 x 8 _ gx rfl)
  have k4650 : H4634 m 3 = H4613 m 3 := (f4639 m 3 _ gm rfl)
  have k4651 : H4634 x 0 = H x 0 := ((f4639 x 0 _ gx rfl).trans (f4618 x 0 _ gx rfl))
  have q4652 : H4634 x 0 = (tc : Int) := k4651.trans e0
  have k4653 : H4634 m 5 = H m 5 := ((f4639 m 5 _ gm rfl).trans (f4618 m 5 _ gm rfl))
  have q4654 : H4634 m 5 = (tm : Int) := k4653.trans em
  have k4655 : H4634 x 6 = H x 6 := ((f4639 x 6 _ gx rfl).trans (f4618 x 6 _ gx rfl))
  have q4656 : H4634 x 6 = (cu : Int) := k4655.trans ecu
  have k4657 : H4634 x 7 = H x 7 := ((f4639 x 7 _ gx rfl).trans (f4618 x 7 _ gx rfl))
  have q4658 : H4634 x 7 = (dr : Int) := k4657.trans edr
  have h4659 : CEN T H4634 ce8 e8 d8 := (CEN_fr w4617 gce8 f4639 rfl p4621)
  have h4660 : TP T H4634 tc B := (TP_fr w4617 gtc f4639 rfl (TP_fr hW gtc f4618 rfl htc))
  have h4661 : TM T H4634 tm B := (TM_fr w4617 gtm f4639 rfl (TM_fr hW gtm f4618 rfl htm))
  have h4662 : DD T H4634 cu  := (DD_fr w4617 gcu f4639 rfl (DD_fr hW gcu f4618 rfl hcu))
  have h4663 : DD T H4634 dr  := (DD_fr w4617 gdr f4639 rfl (DD_fr hW gdr f4618 rfl hdr))
  have h4664 : DE T H4634 cu  := (DE_fr w4617 gcu f4639 rfl (DE_fr hW gcu f4618 rfl hdec))
  have h4665 : DE T H4634 dr  := (DE_fr w4617 gdr f4639 rfl (DE_fr hW gdr f4618 rfl hded))
  have h4666 : SP T H4634 x C8 := (SP_fr w4617 gx f4639 rfl (SP_fr hW gx f4618 rfl hsp))
  have h4667 : CU T H4634 cu e8 d8 n8 := (CU_fr w4617 gcu f4639 rfl (CU_fr hW gcu f4618 rfl hcu8))
  have h4668 : CY T H4634 cu (d8 0 3) g8 (H cu 17) := (CY_fr w4617 gcu f4639 rfl (CY_fr hW gcu f4618 rfl h4606))
  have k4669 : H4634 x 3 = H x 3 := ((f4639 x 3 _ gx rfl).trans (f4618 x 3 _ gx rfl))
  have q4670 : H4634 x 3 = (ce8 : Int) := k4669.trans ece8
  have h4671 : HDR T H4634 ce8  := (HDR_fr w4617 gce8 f4639 rfl (HDR_fr hW gce8 f4618 rfl hhdr8))
  have h4672 : RY T H4634 m (d8 0 3) g8 (H m 32) := (RY_fr w4617 gm f4639 rfl (RY_fr hW gm f4618 rfl h4607))
  have h4673 : RB T H4634 m e8 d8 := (RB_fr w4617 gm f4639 rfl h4630)
  exact WL.loc hX (by simp) (next T H4634 ⟨⟨w4638, g0, gx, gm, go, by omega, by omega⟩, ⟨_, tc, tm, cu, dr, _, _, _, _, _, ce8, q4652, gtc, h4660, q4654, gtm, h4661, q4656, gcu, q4658, gdr, h4662, h4663, h4664, h4665, h4666, hC1, hC2, h4667, h4673, (h4668).1, (h4672).1, hE, hZ, (by omega), (by assumption), (by omega), (by first | assumption | exact SG_0), q4670, gce8, h4659, h4671, a4644, gm⟩, by omega, by omega⟩ (by omega) (by omega))
set_option maxHeartbeats 4000000 in
theorem wl_c31 {kt : Nat → Option mc_E} {CB SB : Nat} {X : mc_S → Prop} {T : wq_T} {H : wq_H} {Len x m o : Nat} {i : Int} (hX : wlX kt CB SB X) (hb : T.2.1 ≤ CB ∧ T.2.2.1 ≤ SB) (hI : wlJ Len x m o T H) (hL : Len ≤ 3072) (hi : 0 ≤ i ∧ i + 6 ≤ Len) (hb2 : T.2.1 + 20 ≤ CB ∧ T.2.2.1 + 500 ≤ SB)  (next : ∀ T' H', wlJ Len x m o T' H' → T'.2.1 ≤ T.2.1 + 20 → T'.2.2.1 ≤ T.2.2.1 + 500 → WL kt CB SB X 1654 (wlL i x m o) [] T' H') : WL kt CB SB X 1176 (wlL i x m o) [] T H := by
  obtain ⟨⟨hW, g0, gx, gm, go, hK, hr⟩, hXI, hY1, hY2⟩ := hI
  refine wl_of hX hb cL_1176 (rw_aload_n (pc' := 1177) (v := .ref x) rfl rfl rfl ?_)
  refine wl_of hX hb cL_1177 (rw_aload_n (pc' := 1178) (v := .ref 0) rfl rfl rfl ?_)
  refine wl_of hX hb cL_1178 (rw_iload (pc' := 1180) (z := i) rfl rfl ?_)
  refine wl_of hX hb cL_1180 (rw_iconst (pc' := 1181) rfl ?_)
  refine wl_of hX hb cL_1181 (rw_iadd (pc' := 1182) rfl ?_)
  refine wl_of hX hb cL_1182 (xa_I (so := 0) (pc' := 1183) (a := 0) hW g0 (wsh_s _) (by omega) (wty_s _ _) (by omega) (by omega) rfl (fun b4674 b4675 => ?_))
  obtain ⟨B, tc, tm, cu, dr, C8, e8, d8, n8, g8, ce8, e0, gtc, htc, em, gtm, htm, ecu, gcu, edr, gdr, hcu, hdr, hdec, hded, hsp, hC1, hC2, hcu8, hrb8, hcg8, hmn8, hE, hZ, hn8, hXA, hV8, hSG, ece8, gce8, hcen8, hhdr8, hknn8, -⟩ := hXI
  have hN3 := RB_n3 hrb8
  have hE13 : ∀ h : Nat, h < 24 → 0 ≤ e8 13 h ∧ e8 13 h ≤ 100 := fun k hk => by
    obtain ⟨s, h1, h2, h3⟩ := hcu8.1.2.2.1
    exact ⟨(h3 k hk).1, (h3 k hk).2.1⟩
  have hXW := hXA.1
  have hXN := hXA.2
  have hE0 : e8 0 3 = d8 0 3 ∧ e8 0 0 = d8 0 0 := by
    have h := hE 0 (by decide)
    exact ⟨congrFun h 3, congrFun h 0⟩
  have u4676 := CU_k hcu8
  have h4677 : CY T H cu (d8 0 3) g8 (H cu 17) := ⟨hcg8, rfl⟩
  have h4678 : RY T H m (d8 0 3) g8 (H m 32) := ⟨hmn8, rfl⟩
  obtain ⟨t9, ht9⟩ : ∃ t : Int, t = H x 9 := ⟨_, rfl⟩
  obtain ⟨y9, hy9⟩ : ∃ y : Int, y = H 0 ((i + 1).toNat) := ⟨_, rfl⟩
  obtain ⟨r4679, q4680, g4681⟩ := hW.ref gx (t' := 6) (n := 13) (j := 2) (p := 0) (q := 0) rfl (by decide) rfl
  refine wl_of hX hb cL_1183 (xc_V (pc' := 1186) (r := x) (as := [vI (H 0 ((i + 1).toNat))]) (st := []) (lm_11_151) rfl rfl (Nat.le_of_ble_eq_true rfl) hW gx sh_1 (by decide) rfl (by decide) (u_130 (e := e8) (d := d8) (n := n8) hW gx ⟨by omega, by omega⟩ ecu gcu q4680 g4681 ece8 gce8 (by assumption) (by assumption) (by omega) (by omega) (by omega) (by omega) hcu8 hcen8 hhdr8) (fun R4682 T4683 H4684 p4685 => ?_))
  obtain ⟨e4686, w4688, f4689, z4690, e4687, b4691, p4692⟩ := p4685
  subst e4686
  subst e4687
  show WL _ _ _ _ 1186 [(4, vI i), (3, .ref o), (2, .ref m), (1, .ref x), (0, .ref 0)] [vI z4690] _ H4684
  refine wl_of hX hb cL_1186 (rw_pop (pc' := 1187) rfl rfl ?_)
  refine wl_of hX hb cL_1187 (rw_aload_n (pc' := 1188) (v := .ref m) rfl rfl rfl ?_)
  refine wl_of hX hb cL_1188 (rw_aload_n (pc' := 1189) (v := .ref 0) rfl rfl rfl ?_)
  refine wl_of hX hb cL_1189 (rw_iload (pc' := 1191) (z := i) rfl rfl ?_)
  refine wl_of hX hb cL_1191 (rw_iconst (pc' := 1192) rfl ?_)
  refine wl_of hX hb cL_1192 (rw_iadd (pc' := 1193) rfl ?_)
  have k4696 : H4684 0 ((i + 1).toNat) = H 0 ((i + 1).toNat) := (f4689 0 ((i + 1).toNat) _ g0 (wmem_s rfl))
  refine wl_of hX hb cL_1193 (xa_I (so := 0) (pc' := 1194) (a := 0) w4688 g0 (wsh_s _) (by omega) (wty_s _ _) (by omega) (by omega) rfl (fun b4694 b4695 => ?_))
  have k4697 : wKI H4684 m = wKI H m := (wKI_fr hW gm f4689 rfl)
  have k4698 : H4684 x 9 = H x 9 := (f4689 x 9 _ gx rfl)
  have k4699 : H4684 m 6 = H m 6 := (f4689 m 6 _ gm rfl)
  have k4700 : H4684 x 11 = H x 11 := (f4689 x 11 _ gx rfl)
  have k4701 : H4684 m 13 = H m 13 := (f4689 m 13 _ gm rfl)
  have k4702 : H4684 x 8 = H x 8 := (f4689 x 8 _ gx rfl)
  have k4703 : H4684 m 3 = H m 3 := (f4689 m 3 _ gm rfl)
  rw [show H4684 0 ((i + 1).toNat) = H 0 ((i + 1).toNat) by omega]
  have h4704 : RB T H4684 m e8 d8 := (RB_fr hW gm f4689 rfl hrb8)
  have h4705 : KNN T H4684 m e8 d8 := (KNN_fr hW gm f4689 rfl hknn8)
  refine wl_of hX hb cL_1194 (xc_V (pc' := 1197) (r := m) (as := [vI (H 0 ((i + 1).toNat))]) (st := []) (lm_11_154) rfl rfl (Nat.le_of_ble_eq_true rfl) w4688 gm sh_42 (by decide) rfl (by decide) (u_271 (e := e8) (d := d8) w4688 gm ⟨by omega, by omega⟩ (by omega) (by assumption) (by assumption) (by assumption) (by assumption) h4704 h4705) (fun R4706 T4707 H4708 p4709 => ?_))
  obtain ⟨e4710, w4712, f4713, z4714, e4711, b4715, p4716⟩ := p4709
  subst e4710
  subst e4711
  obtain ⟨a4717, a4718⟩ := p4716
  show WL _ _ _ _ 1197 [(4, vI i), (3, .ref o), (2, .ref m), (1, .ref x), (0, .ref 0)] [vI z4714] _ H4708
  refine wl_of hX hb cL_1197 (rw_pop (pc' := 1198) rfl rfl ?_)
  refine wl_of hX hb cL_1198 (rw_goto (p1 := 1654) (by decide) ?_)
  have k4719 : H4708 x 9 = H4684 x 9 := (f4713 x 9 _ gx rfl)
  have k4720 : H4708 m 6 = H4684 m 6 := (f4713 m 6 _ gm rfl)
  have k4721 : H4708 x 11 = H4684 x 11 := (f4713 x 11 _ gx rfl)
  have k4722 : H4708 m 13 = H4684 m 13 := (f4713 m 13 _ gm rfl)
  have k4723 : H4708 x 8 = H4684 x 8 := (f4713 x 8 _ gx rfl)
  have k4724 : H4708 m 3 = H4684 m 3 := (f4713 m 3 _ gm rfl)
  have k4725 : H4708 x 0 = H x 0 := ((f4713 x 0 _ gx rfl).trans (f4689 x 0 _ gx rfl))
  have q4726 : H4708 x 0 = (tc : Int) := k4725.trans e0
  have k4727 : H4708 m 5 = H m 5 := ((f4713 m 5 _ gm rfl).trans (f4689 m 5 _ gm rfl))
  have q4728 : H4708 m 5 = (tm : Int) := k4727.trans em
  have k4729 : H4708 x 6 = H x 6 := ((f4713 x 6 _ gx rfl).trans (f4689 x 6 _ gx rfl))
  have q4730 : H4708 x 6 = (cu : Int) := k4729.trans ecu
  have k4731 : H4708 x 7 = H x 7 := ((f4713 x 7 _ gx rfl).trans (f4689 x 7 _ gx rfl))
  have q4732 : H4708 x 7 = (dr : Int) := k4731.trans edr
  have h4733 : CEN T H4708 ce8 e8 d8 := (CEN_fr w4688 gce8 f4713 rfl p4692)
  have h4734 : TP T H4708 tc B := (TP_fr w4688 gtc f4713 rfl (TP_fr hW gtc f4689 rfl htc))
  have h4735 : TM T H4708 tm B := (TM_fr w4688 gtm f4713 rfl (TM_fr hW gtm f4689 rfl htm))
  have h4736 : DD T H4708 cu  := (DD_fr w4688 gcu f4713 rfl (DD_fr hW gcu f4689 rfl hcu))
  have h4737 : DD T H4708 dr  := (DD_fr w4688 gdr f4713 rfl (DD_fr hW gdr f4689 rfl hdr))
  have h4738 : DE T H4708 cu  := (DE_fr w4688 gcu f4713 rfl (DE_fr hW gcu f4689 rfl hdec))
  have h4739 : DE T H4708 dr  := (DE_fr w4688 gdr f4713 rfl (DE_fr hW gdr f4689 rfl hded))
  have h4740 : SP T H4708 x C8 := (SP_fr w4688 gx f4713 rfl (SP_fr hW gx f4689 rfl hsp))
  have h4741 : CU T H4708 cu e8 d8 n8 := (CU_fr w4688 gcu f4713 rfl (CU_fr hW gcu f4689 rfl hcu8))
  have h4742 : CY T H4708 cu (d8 0 3) g8 (H cu 17) := (CY_fr w4688 gcu f4713 rfl (CY_fr hW gcu f4689 rfl h4677))
  have k4743 : H4708 x 3 = H x 3 := ((f4713 x 3 _ gx rfl).trans (f4689 x 3 _ gx rfl))
  have q4744 : H4708 x 3 = (ce8 : Int) := k4743.trans ece8
  have h4745 : HDR T H4708 ce8  := (HDR_fr w4688 gce8 f4713 rfl (HDR_fr hW gce8 f4689 rfl hhdr8))
  have h4746 : RY T H4708 m (d8 0 3) g8 (H m 32) := (RY_fr w4688 gm f4713 rfl (RY_fr hW gm f4689 rfl h4678))
  have h4747 : RB T H4708 m e8 d8 := (RB_fr w4688 gm f4713 rfl h4704)
  exact WL.loc hX (by simp) (next T H4708 ⟨⟨w4712, g0, gx, gm, go, by omega, by omega⟩, ⟨_, tc, tm, cu, dr, _, _, _, _, _, ce8, q4726, gtc, h4734, q4728, gtm, h4735, q4730, gcu, q4732, gdr, h4736, h4737, h4738, h4739, h4740, hC1, hC2, h4741, h4747, (h4742).1, (h4746).1, hE, hZ, (by omega), (by assumption), (by omega), (by first | assumption | exact SG_0), q4744, gce8, h4733, h4745, a4718, gm⟩, by omega, by omega⟩ (by omega) (by omega))
set_option maxHeartbeats 4000000 in
theorem wl_c32 {kt : Nat → Option mc_E} {CB SB : Nat} {X : mc_S → Prop} {T : wq_T} {H : wq_H} {Len x m o : Nat} {i : Int} (hX : wlX kt CB SB X) (hb : T.2.1 ≤ CB ∧ T.2.2.1 ≤ SB) (hI : wlJ Len x m o T H) (hL : Len ≤ 3072) (hi : 0 ≤ i ∧ i + 6 ≤ Len) (hb2 : T.2.1 + 20 ≤ CB ∧ T.2.2.1 + 500 ≤ SB)  (next : ∀ T' H', wlJ Len x m o T' H' → T'.2.1 ≤ T.2.1 + 20 → T'.2.2.1 ≤ T.2.2.1 + 500 → WL kt CB SB X 1654 (wlL i x m o) [] T' H') : WL kt CB SB X 1201 (wlL i x m o) [] T H := by
  obtain ⟨⟨hW, g0, gx, gm, go, hK, hr⟩, hXI, hY1, hY2⟩ := hI
  refine wl_of hX hb cL_1201 (rw_aload_n (pc' := 1202) (v := .ref x) rfl rfl rfl ?_)
  refine wl_of hX hb cL_1202 (rw_aload_n (pc' := 1203) (v := .ref 0) rfl rfl rfl ?_)
  refine wl_of hX hb cL_1203 (rw_iload (pc' := 1205) (z := i) rfl rfl ?_)
  refine wl_of hX hb cL_1205 (rw_iconst (pc' := 1206) rfl ?_)
  refine wl_of hX hb cL_1206 (rw_iadd (pc' := 1207) rfl ?_)
  refine wl_of hX hb cL_1207 (xa_I (so := 0) (pc' := 1208) (a := 0) hW g0 (wsh_s _) (by omega) (wty_s _ _) (by omega) (by omega) rfl (fun b4748 b4749 => ?_))
  obtain ⟨B, tc, tm, cu, dr, C8, e8, d8, n8, g8, ce8, e0, gtc, htc, em, gtm, htm, ecu, gcu, edr, gdr, hcu, hdr, hdec, hded, hsp, hC1, hC2, hcu8, hrb8, hcg8, hmn8, hE, hZ, hn8, hXA, hV8, hSG, ece8, gce8, hcen8, hhdr8, hknn8, -⟩ := hXI
  have hN3 := RB_n3 hrb8
  have hE13 : ∀ h : Nat, h < 24 → 0 ≤ e8 13 h ∧ e8 13 h ≤ 100 := fun k hk => by
    obtain ⟨s, h1, h2, h3⟩ := hcu8.1.2.2.1
    exact ⟨(h3 k hk).1, (h3 k hk).2.1⟩
  have hXW := hXA.1
  have hXN := hXA.2
  have hE0 : e8 0 3 = d8 0 3 ∧ e8 0 0 = d8 0 0 := by
    have h := hE 0 (by decide)
    exact ⟨congrFun h 3, congrFun h 0⟩
  have u4750 := CU_k hcu8
  have h4751 : CY T H cu (d8 0 3) g8 (H cu 17) := ⟨hcg8, rfl⟩
  have h4752 : RY T H m (d8 0 3) g8 (H m 32) := ⟨hmn8, rfl⟩
  obtain ⟨t9, ht9⟩ : ∃ t : Int, t = H x 9 := ⟨_, rfl⟩
  obtain ⟨y9, hy9⟩ : ∃ y : Int, y = H 0 ((i + 1).toNat) := ⟨_, rfl⟩
  obtain ⟨r4753, q4754, g4755⟩ := hW.ref gx (t' := 6) (n := 13) (j := 2) (p := 0) (q := 0) rfl (by decide) rfl
  refine wl_of hX hb cL_1208 (xc_V (pc' := 1211) (r := x) (as := [vI (H 0 ((i + 1).toNat))]) (st := []) (lm_11_155) rfl rfl (Nat.le_of_ble_eq_true rfl) hW gx sh_1 (by decide) rfl (by decide) (u_132 (e := e8) (d := d8) (n := n8) hW gx ⟨by omega, by omega⟩ ecu gcu q4754 g4755 ece8 gce8 (by assumption) (by assumption) (by omega) (by omega) (by omega) (by omega) hcu8 hcen8 hhdr8) (fun R4756 T4757 H4758 p4759 => ?_))
  obtain ⟨e4760, w4762, f4763, z4764, e4761, b4765, p4766⟩ := p4759
  subst e4760
  subst e4761
  show WL _ _ _ _ 1211 [(4, vI i), (3, .ref o), (2, .ref m), (1, .ref x), (0, .ref 0)] [vI z4764] _ H4758
  refine wl_of hX hb cL_1211 (rw_pop (pc' := 1212) rfl rfl ?_)
  refine wl_of hX hb cL_1212 (rw_aload_n (pc' := 1213) (v := .ref m) rfl rfl rfl ?_)
  refine wl_of hX hb cL_1213 (rw_aload_n (pc' := 1214) (v := .ref 0) rfl rfl rfl ?_)
  refine wl_of hX hb cL_1214 (rw_iload (pc' := 1216) (z := i) rfl rfl ?_)
  refine wl_of hX hb cL_1216 (rw_iconst (pc' := 1217) rfl ?_)
  refine wl_of hX hb cL_1217 (rw_iadd (pc' := 1218) rfl ?_)
  have k4770 : H4758 0 ((i + 1).toNat) = H 0 ((i + 1).toNat) := (f4763 0 ((i + 1).toNat) _ g0 (wmem_s rfl))
  refine wl_of hX hb cL_1218 (xa_I (so := 0) (pc' := 1219) (a := 0) w4762 g0 (wsh_s _) (by omega) (wty_s _ _) (by omega) (by omega) rfl (fun b4768 b4769 => ?_))
  have k4771 : wKI H4758 m = wKI H m := (wKI_fr hW gm f4763 rfl)
  have k4772 : H4758 x 9 = H x 9 := (f4763 x 9 _ gx rfl)
  have k4773 : H4758 m 6 = H m 6 := (f4763 m 6 _ gm rfl)
  have k4774 : H4758 x 11 = H x 11 := (f4763 x 11 _ gx rfl)
  have k4775 : H4758 m 13 = H m 13 := (f4763 m 13 _ gm rfl)
  have k4776 : H4758 x 8 = H x 8 := (f4763 x 8 _ gx rfl)
  have k4777 : H4758 m 3 = H m 3 := (f4763 m 3 _ gm rfl)
  rw [show H4758 0 ((i + 1).toNat) = H 0 ((i + 1).toNat) by omega]
  have h4778 : RB T H4758 m e8 d8 := (RB_fr hW gm f4763 rfl hrb8)
  have h4779 : KNN T H4758 m e8 d8 := (KNN_fr hW gm f4763 rfl hknn8)
  refine wl_of hX hb cL_1219 (xc_V (pc' := 1222) (r := m) (as := [vI (H 0 ((i + 1).toNat))]) (st := []) (lm_11_158) rfl rfl (Nat.le_of_ble_eq_true rfl) w4762 gm sh_42 (by decide) rfl (by decide) (u_272 (e := e8) (d := d8) w4762 gm ⟨by omega, by omega⟩ (by omega) (by assumption) (by assumption) (by assumption) (by assumption) h4778 h4779) (fun R4780 T4781 H4782 p4783 => ?_))
  obtain ⟨e4784, w4786, f4787, z4788, e4785, b4789, p4790⟩ := p4783
  subst e4784
  subst e4785
  obtain ⟨a4791, a4792⟩ := p4790
  show WL _ _ _ _ 1222 [(4, vI i), (3, .ref o), (2, .ref m), (1, .ref x), (0, .ref 0)] [vI z4788] _ H4782
  refine wl_of hX hb cL_1222 (rw_pop (pc' := 1223) rfl rfl ?_)
  refine wl_of hX hb cL_1223 (rw_goto (p1 := 1654) (by decide) ?_)
  have k4793 : H4782 x 9 = H4758 x 9 := (f4787 x 9 _ gx rfl)
  have k4794 : H4782 m 6 = H4758 m 6 := (f4787 m 6 _ gm rfl)
  have k4795 : H4782 x 11 = H4758 x 11 := (f4787 x 11 _ gx rfl)
  have k4796 : H4782 m 13 = H4758 m 13 := (f4787 m 13 _ gm rfl)
  have k4797 : H4782 x 8 = H4758 x 8 := (f4787 x 8 _ gx rfl)
  have k4798 : H4782 m 3 = H4758 m 3 := (f4787 m 3 _ gm rfl)
  have k4799 : H4782 x 0 = H x 0 := ((f4787 x 0 _ gx rfl).trans (f4763 x 0 _ gx rfl))
  have q4800 : H4782 x 0 = (tc : Int) := k4799.trans e0
  have k4801 : H4782 m 5 = H m 5 := ((f4787 m 5 _ gm rfl).trans (f4763 m 5 _ gm rfl))
  have q4802 : H4782 m 5 = (tm : Int) := k4801.trans em
  have k4803 : H4782 x 6 = H x 6 := ((f4787 x 6 _ gx rfl).trans (f4763 x 6 _ gx rfl))
  have q4804 : H4782 x 6 = (cu : Int) := k4803.trans ecu
  have k4805 : H4782 x 7 = H x 7 := ((f4787 x 7 _ gx rfl).trans (f4763 x 7 _ gx rfl))
  have q4806 : H4782 x 7 = (dr : Int) := k4805.trans edr
  have h4807 : CEN T H4782 ce8 e8 d8 := (CEN_fr w4762 gce8 f4787 rfl p4766)
  have h4808 : TP T H4782 tc B := (TP_fr w4762 gtc f4787 rfl (TP_fr hW gtc f4763 rfl htc))
  have h4809 : TM T H4782 tm B := (TM_fr w4762 gtm f4787 rfl (TM_fr hW gtm f4763 rfl htm))
  have h4810 : DD T H4782 cu  := (DD_fr w4762 gcu f4787 rfl (DD_fr hW gcu f4763 rfl hcu))
  have h4811 : DD T H4782 dr  := (DD_fr w4762 gdr f4787 rfl (DD_fr hW gdr f4763 rfl hdr))
  have h4812 : DE T H4782 cu  := (DE_fr w4762 gcu f4787 rfl (DE_fr hW gcu f4763 rfl hdec))
  have h4813 : DE T H4782 dr  := (DE_fr w4762 gdr f4787 rfl (DE_fr hW gdr f4763 rfl hded))
  have h4814 : SP T H4782 x C8 := (SP_fr w4762 gx f4787 rfl (SP_fr hW gx f4763 rfl hsp))
  have h4815 : CU T H4782 cu e8 d8 n8 := (CU_fr w4762 gcu f4787 rfl (CU_fr hW gcu f4763 rfl hcu8))
  have h4816 : CY T H4782 cu (d8 0 3) g8 (H cu 17) := (CY_fr w4762 gcu f4787 rfl (CY_fr hW gcu f4763 rfl h4751))
  have k4817 : H4782 x 3 = H x 3 := ((f4787 x 3 _ gx rfl).trans (f4763 x 3 _ gx rfl))
  have q4818 : H4782 x 3 = (ce8 : Int) := k4817.trans ece8
  have h4819 : HDR T H4782 ce8  := (HDR_fr w4762 gce8 f4787 rfl (HDR_fr hW gce8 f4763 rfl hhdr8))
  have h4820 : RY T H4782 m (d8 0 3) g8 (H m 32) := (RY_fr w4762 gm f4787 rfl (RY_fr hW gm f4763 rfl h4752))
  have h4821 : RB T H4782 m e8 d8 := (RB_fr w4762 gm f4787 rfl h4778)
  exact WL.loc hX (by simp) (next T H4782 ⟨⟨w4786, g0, gx, gm, go, by omega, by omega⟩, ⟨_, tc, tm, cu, dr, _, _, _, _, _, ce8, q4800, gtc, h4808, q4802, gtm, h4809, q4804, gcu, q4806, gdr, h4810, h4811, h4812, h4813, h4814, hC1, hC2, h4815, h4821, (h4816).1, (h4820).1, hE, hZ, (by omega), (by assumption), (by omega), (by first | assumption | exact SG_0), q4818, gce8, h4807, h4819, a4792, gm⟩, by omega, by omega⟩ (by omega) (by omega))
set_option maxHeartbeats 4000000 in
theorem wl_c33 {kt : Nat → Option mc_E} {CB SB : Nat} {X : mc_S → Prop} {T : wq_T} {H : wq_H} {Len x m o : Nat} {i : Int} (hX : wlX kt CB SB X) (hb : T.2.1 ≤ CB ∧ T.2.2.1 ≤ SB) (hI : wlJ Len x m o T H) (hL : Len ≤ 3072) (hi : 0 ≤ i ∧ i + 6 ≤ Len) (hb2 : T.2.1 + 20 ≤ CB ∧ T.2.2.1 + 500 ≤ SB)  (next : ∀ T' H', wlJ Len x m o T' H' → T'.2.1 ≤ T.2.1 + 20 → T'.2.2.1 ≤ T.2.2.1 + 500 → WL kt CB SB X 1654 (wlL i x m o) [] T' H') : WL kt CB SB X 1226 (wlL i x m o) [] T H := by
  obtain ⟨⟨hW, g0, gx, gm, go, hK, hr⟩, hXI, hY1, hY2⟩ := hI
  refine wl_of hX hb cL_1226 (rw_aload_n (pc' := 1227) (v := .ref x) rfl rfl rfl ?_)
  refine wl_of hX hb cL_1227 (rw_aload_n (pc' := 1228) (v := .ref 0) rfl rfl rfl ?_)
  refine wl_of hX hb cL_1228 (rw_iload (pc' := 1230) (z := i) rfl rfl ?_)
  refine wl_of hX hb cL_1230 (rw_iconst (pc' := 1231) rfl ?_)
  refine wl_of hX hb cL_1231 (rw_iadd (pc' := 1232) rfl ?_)
  refine wl_of hX hb cL_1232 (xa_I (so := 0) (pc' := 1233) (a := 0) hW g0 (wsh_s _) (by omega) (wty_s _ _) (by omega) (by omega) rfl (fun b4822 b4823 => ?_))
  obtain ⟨B, tc, tm, cu, dr, C8, e8, d8, n8, g8, ce8, e0, gtc, htc, em, gtm, htm, ecu, gcu, edr, gdr, hcu, hdr, hdec, hded, hsp, hC1, hC2, hcu8, hrb8, hcg8, hmn8, hE, hZ, hn8, hXA, hV8, hSG, ece8, gce8, hcen8, hhdr8, hknn8, -⟩ := hXI
  have hN3 := RB_n3 hrb8
  have hE13 : ∀ h : Nat, h < 24 → 0 ≤ e8 13 h ∧ e8 13 h ≤ 100 := fun k hk => by
    obtain ⟨s, h1, h2, h3⟩ := hcu8.1.2.2.1
    exact ⟨(h3 k hk).1, (h3 k hk).2.1⟩
  have hXW := hXA.1
  have hXN := hXA.2
  have hE0 : e8 0 3 = d8 0 3 ∧ e8 0 0 = d8 0 0 := by
    have h := hE 0 (by decide)
    exact ⟨congrFun h 3, congrFun h 0⟩
  have u4824 := CU_k hcu8
  have h4825 : CY T H cu (d8 0 3) g8 (H cu 17) := ⟨hcg8, rfl⟩
  have h4826 : RY T H m (d8 0 3) g8 (H m 32) := ⟨hmn8, rfl⟩
  obtain ⟨t9, ht9⟩ : ∃ t : Int, t = H x 9 := ⟨_, rfl⟩
  obtain ⟨y9, hy9⟩ : ∃ y : Int, y = H 0 ((i + 1).toNat) := ⟨_, rfl⟩
  obtain ⟨r4827, q4828, g4829⟩ := hW.ref gx (t' := 6) (n := 13) (j := 2) (p := 0) (q := 0) rfl (by decide) rfl
  refine wl_of hX hb cL_1233 (xc_V (pc' := 1236) (r := x) (as := [vI (H 0 ((i + 1).toNat))]) (st := []) (lm_11_159) rfl rfl (Nat.le_of_ble_eq_true rfl) hW gx sh_1 (by decide) rfl (by decide) (u_135 (e := e8) (d := d8) (n := n8) hW gx ⟨by omega, by omega⟩ ecu gcu q4828 g4829 ece8 gce8 (by assumption) (by assumption) (by omega) (by omega) (by omega) (by omega) hcu8 hcen8 hhdr8) (fun R4830 T4831 H4832 p4833 => ?_))
  obtain ⟨e4834, w4836, f4837, z4838, e4835, b4839, p4840⟩ := p4833
  subst e4834
  subst e4835
  show WL _ _ _ _ 1236 [(4, vI i), (3, .ref o), (2, .ref m), (1, .ref x), (0, .ref 0)] [vI z4838] _ H4832
  refine wl_of hX hb cL_1236 (rw_pop (pc' := 1237) rfl rfl ?_)
  refine wl_of hX hb cL_1237 (rw_aload_n (pc' := 1238) (v := .ref m) rfl rfl rfl ?_)
  refine wl_of hX hb cL_1238 (rw_aload_n (pc' := 1239) (v := .ref 0) rfl rfl rfl ?_)
  refine wl_of hX hb cL_1239 (rw_iload (pc' := 1241) (z := i) rfl rfl ?_)
  refine wl_of hX hb cL_1241 (rw_iconst (pc' := 1242) rfl ?_)
  refine wl_of hX hb cL_1242 (rw_iadd (pc' := 1243) rfl ?_)
  have k4844 : H4832 0 ((i + 1).toNat) = H 0 ((i + 1).toNat) := (f4837 0 ((i + 1).toNat) _ g0 (wmem_s rfl))
  refine wl_of hX hb cL_1243 (xa_I (so := 0) (pc' := 1244) (a := 0) w4836 g0 (wsh_s _) (by omega) (wty_s _ _) (by omega) (by omega) rfl (fun b4842 b4843 => ?_))
  have k4845 : wKI H4832 m = wKI H m := (wKI_fr hW gm f4837 rfl)
  have k4846 : H4832 x 9 = H x 9 := (f4837 x 9 _ gx rfl)
  have k4847 : H4832 m 6 = H m 6 := (f4837 m 6 _ gm rfl)
  have k4848 : H4832 x 11 = H x 11 := (f4837 x 11 _ gx rfl)
  have k4849 : H4832 m 13 = H m 13 := (f4837 m 13 _ gm rfl)
  have k4850 : H4832 x 8 = H x 8 := (f4837 x 8 _ gx rfl)
  have k4851 : H4832 m 3 = H m 3 := (f4837 m 3 _ gm rfl)
  rw [show H4832 0 ((i + 1).toNat) = H 0 ((i + 1).toNat) by omega]
  have h4852 : RB T H4832 m e8 d8 := (RB_fr hW gm f4837 rfl hrb8)
  have h4853 : KNN T H4832 m e8 d8 := (KNN_fr hW gm f4837 rfl hknn8)
  refine wl_of hX hb cL_1244 (xc_V (pc' := 1247) (r := m) (as := [vI (H 0 ((i + 1).toNat))]) (st := []) (lm_11_162) rfl rfl (Nat.le_of_ble_eq_true rfl) w4836 gm sh_42 (by decide) rfl (by decide) (u_275 (e := e8) (d := d8) w4836 gm ⟨by omega, by omega⟩ (by omega) (by assumption) (by assumption) (by assumption) (by assumption) h4852 h4853) (fun R4854 T4855 H4856 p4857 => ?_))
  obtain ⟨e4858, w4860, f4861, z4862, e4859, b4863, p4864⟩ := p4857
  subst e4858
  subst e4859
  obtain ⟨a4865, a4866⟩ := p4864
  show WL _ _ _ _ 1247 [(4, vI i), (3, .ref o), (2, .ref m), (1, .ref x), (0, .ref 0)] [vI z4862] _ H4856
  refine wl_of hX hb cL_1247 (rw_pop (pc' := 1248) rfl rfl ?_)
  refine wl_of hX hb cL_1248 (rw_goto (p1 := 1654) (by decide) ?_)
  have k4867 : H4856 x 9 = H4832 x 9 := (f4861 x 9 _ gx rfl)
  have k4868 : H4856 m 6 = H4832 m 6 := (f4861 m 6 _ gm rfl)
  have k4869 : H4856 x 11 = H4832 x 11 := (f4861 x 11 _ gx rfl)
  have k4870 : H4856 m 13 = H4832 m 13 := (f4861 m 13 _ gm rfl)
  have k4871 : H4856 x 8 = H4832 x 8 := (f4861 x 8 _ gx rfl)
  have k4872 : H4856 m 3 = H4832 m 3 := (f4861 m 3 _ gm rfl)
  have k4873 : H4856 x 0 = H x 0 := ((f4861 x 0 _ gx rfl).trans (f4837 x 0 _ gx rfl))
  have q4874 : H4856 x 0 = (tc : Int) := k4873.trans e0
  have k4875 : H4856 m 5 = H m 5 := ((f4861 m 5 _ gm rfl).trans (f4837 m 5 _ gm rfl))
  have q4876 : H4856 m 5 = (tm : Int) := k4875.trans em
  have k4877 : H4856 x 6 = H x 6 := ((f4861 x 6 _ gx rfl).trans (f4837 x 6 _ gx rfl))
  have q4878 : H4856 x 6 = (cu : Int) := k4877.trans ecu
  have k4879 : H4856 x 7 = H x 7 := ((f4861 x 7 _ gx rfl).trans (f4837 x 7 _ gx rfl))
  have q4880 : H4856 x 7 = (dr : Int) := k4879.trans edr
  have h4881 : CEN T H4856 ce8 e8 d8 := (CEN_fr w4836 gce8 f4861 rfl p4840)
  have h4882 : TP T H4856 tc B := (TP_fr w4836 gtc f4861 rfl (TP_fr hW gtc f4837 rfl htc))
  have h4883 : TM T H4856 tm B := (TM_fr w4836 gtm f4861 rfl (TM_fr hW gtm f4837 rfl htm))
  have h4884 : DD T H4856 cu  := (DD_fr w4836 gcu f4861 rfl (DD_fr hW gcu f4837 rfl hcu))
  have h4885 : DD T H4856 dr  := (DD_fr w4836 gdr f4861 rfl (DD_fr hW gdr f4837 rfl hdr))
  have h4886 : DE T H4856 cu  := (DE_fr w4836 gcu f4861 rfl (DE_fr hW gcu f4837 rfl hdec))
  have h4887 : DE T H4856 dr  := (DE_fr w4836 gdr f4861 rfl (DE_fr hW gdr f4837 rfl hded))
  have h4888 : SP T H4856 x C8 := (SP_fr w4836 gx f4861 rfl (SP_fr hW gx f4837 rfl hsp))
  have h4889 : CU T H4856 cu e8 d8 n8 := (CU_fr w4836 gcu f4861 rfl (CU_fr hW gcu f4837 rfl hcu8))
  have h4890 : CY T H4856 cu (d8 0 3) g8 (H cu 17) := (CY_fr w4836 gcu f4861 rfl (CY_fr hW gcu f4837 rfl h4825))
  have k4891 : H4856 x 3 = H x 3 := ((f4861 x 3 _ gx rfl).trans (f4837 x 3 _ gx rfl))
  have q4892 : H4856 x 3 = (ce8 : Int) := k4891.trans ece8
  have h4893 : HDR T H4856 ce8  := (HDR_fr w4836 gce8 f4861 rfl (HDR_fr hW gce8 f4837 rfl hhdr8))
  have h4894 : RY T H4856 m (d8 0 3) g8 (H m 32) := (RY_fr w4836 gm f4861 rfl (RY_fr hW gm f4837 rfl h4826))
  have h4895 : RB T H4856 m e8 d8 := (RB_fr w4836 gm f4861 rfl h4852)
  exact WL.loc hX (by simp) (next T H4856 ⟨⟨w4860, g0, gx, gm, go, by omega, by omega⟩, ⟨_, tc, tm, cu, dr, _, _, _, _, _, ce8, q4874, gtc, h4882, q4876, gtm, h4883, q4878, gcu, q4880, gdr, h4884, h4885, h4886, h4887, h4888, hC1, hC2, h4889, h4895, (h4890).1, (h4894).1, hE, hZ, (by omega), (by assumption), (by omega), (by first | assumption | exact SG_0), q4892, gce8, h4881, h4893, a4866, gm⟩, by omega, by omega⟩ (by omega) (by omega))
set_option maxHeartbeats 4000000 in
theorem wl_c34 {kt : Nat → Option mc_E} {CB SB : Nat} {X : mc_S → Prop} {T : wq_T} {H : wq_H} {Len x m o : Nat} {i : Int} (hX : wlX kt CB SB X) (hb : T.2.1 ≤ CB ∧ T.2.2.1 ≤ SB) (hI : wlJ Len x m o T H) (hL : Len ≤ 3072) (hi : 0 ≤ i ∧ i + 6 ≤ Len) (hb2 : T.2.1 + 20 ≤ CB ∧ T.2.2.1 + 500 ≤ SB)  (next : ∀ T' H', wlJ Len x m o T' H' → T'.2.1 ≤ T.2.1 + 20 → T'.2.2.1 ≤ T.2.2.1 + 500 → WL kt CB SB X 1654 (wlL i x m o) [] T' H') : WL kt CB SB X 1251 (wlL i x m o) [] T H := by
  obtain ⟨⟨hW, g0, gx, gm, go, hK, hr⟩, hXI, hY1, hY2⟩ := hI
  refine wl_of hX hb cL_1251 (rw_aload_n (pc' := 1252) (v := .ref x) rfl rfl rfl ?_)
  obtain ⟨B, tc, tm, cu, dr, C8, e8, d8, n8, g8, ce8, e0, gtc, htc, em, gtm, htm, ecu, gcu, edr, gdr, hcu, hdr, hdec, hded, hsp, hC1, hC2, hcu8, hrb8, hcg8, hmn8, hE, hZ, hn8, hXA, hV8, hSG, ece8, gce8, hcen8, hhdr8, hknn8, -⟩ := hXI
  have hN3 := RB_n3 hrb8
  have hE13 : ∀ h : Nat, h < 24 → 0 ≤ e8 13 h ∧ e8 13 h ≤ 100 := fun k hk => by
    obtain ⟨s, h1, h2, h3⟩ := hcu8.1.2.2.1
    exact ⟨(h3 k hk).1, (h3 k hk).2.1⟩
  have hXW := hXA.1
  have hXN := hXA.2
  have hE0 : e8 0 3 = d8 0 3 ∧ e8 0 0 = d8 0 0 := by
    have h := hE 0 (by decide)
    exact ⟨congrFun h 3, congrFun h 0⟩
  have u4896 := CU_k hcu8
  have h4897 : CY T H cu (d8 0 3) g8 (H cu 17) := ⟨hcg8, rfl⟩
  have h4898 : RY T H m (d8 0 3) g8 (H m 32) := ⟨hmn8, rfl⟩
  obtain ⟨t9, ht9⟩ : ∃ t : Int, t = H x 9 := ⟨_, rfl⟩
  obtain ⟨r4899, q4900, g4901⟩ := hW.ref gx (t' := 6) (n := 13) (j := 2) (p := 0) (q := 0) rfl (by decide) rfl
  refine wl_of hX hb cL_1252 (xc_V (pc' := 1255) (r := x) (as := []) (st := []) (lm_11_163) rfl rfl (Nat.le_of_ble_eq_true rfl) hW gx sh_1 (by decide) rfl (by decide) (u_137 (e := e8) (d := d8) (n := n8) hW gx ecu gcu q4900 g4901 ece8 gce8 (by assumption) (by assumption) (by omega) (by omega) (by omega) (by omega) hcu8 hcen8 hhdr8) (fun R4902 T4903 H4904 p4905 => ?_))
  obtain ⟨e4906, w4908, f4909, z4910, e4907, b4911, p4912⟩ := p4905
  subst e4906
  subst e4907
  show WL _ _ _ _ 1255 [(4, vI i), (3, .ref o), (2, .ref m), (1, .ref x), (0, .ref 0)] [vI z4910] _ H4904
  refine wl_of hX hb cL_1255 (rw_pop (pc' := 1256) rfl rfl ?_)
  refine wl_of hX hb cL_1256 (rw_aload_n (pc' := 1257) (v := .ref m) rfl rfl rfl ?_)
  have k4914 : wKI H4904 m = wKI H m := (wKI_fr hW gm f4909 rfl)
  have k4915 : H4904 x 9 = H x 9 := (f4909 x 9 _ gx rfl)
  have k4916 : H4904 m 6 = H m 6 := (f4909 m 6 _ gm rfl)
  have k4917 : H4904 x 11 = H x 11 := (f4909 x 11 _ gx rfl)
  have k4918 : H4904 m 13 = H m 13 := (f4909 m 13 _ gm rfl)
  have k4919 : H4904 x 8 = H x 8 := (f4909 x 8 _ gx rfl)
  have k4920 : H4904 m 3 = H m 3 := (f4909 m 3 _ gm rfl)
  have h4921 : RB T H4904 m e8 d8 := (RB_fr hW gm f4909 rfl hrb8)
  have h4922 : KNN T H4904 m e8 d8 := (KNN_fr hW gm f4909 rfl hknn8)
  refine wl_of hX hb cL_1257 (xc_V (pc' := 1260) (r := m) (as := []) (st := []) (lm_11_166) rfl rfl (Nat.le_of_ble_eq_true rfl) w4908 gm sh_42 (by decide) rfl (by decide) (u_276 (e := e8) (d := d8) w4908 gm (by omega) (by assumption) (by assumption) (by assumption) (by assumption) h4921 h4922) (fun R4923 T4924 H4925 p4926 => ?_))
  obtain ⟨e4927, w4929, f4930, z4931, e4928, b4932, p4933⟩ := p4926
  subst e4927
  subst e4928
  obtain ⟨a4934, a4935⟩ := p4933
  show WL _ _ _ _ 1260 [(4, vI i), (3, .ref o), (2, .ref m), (1, .ref x), (0, .ref 0)] [vI z4931] _ H4925
  refine wl_of hX hb cL_1260 (rw_pop (pc' := 1261) rfl rfl ?_)
  refine wl_of hX hb cL_1261 (rw_goto (p1 := 1654) (by decide) ?_)
  have k4936 : H4925 x 9 = H4904 x 9 := (f4930 x 9 _ gx rfl)
  have k4937 : H4925 m 6 = H4904 m 6 := (f4930 m 6 _ gm rfl)
  have k4938 : H4925 x 11 = H4904 x 11 := (f4930 x 11 _ gx rfl)
  have k4939 : H4925 m 13 = H4904 m 13 := (f4930 m 13 _ gm rfl)
  have k4940 : H4925 x 8 = H4904 x 8 := (f4930 x 8 _ gx rfl)
  have k4941 : H4925 m 3 = H4904 m 3 := (f4930 m 3 _ gm rfl)
  have k4942 : H4925 x 0 = H x 0 := ((f4930 x 0 _ gx rfl).trans (f4909 x 0 _ gx rfl))
  have q4943 : H4925 x 0 = (tc : Int) := k4942.trans e0
  have k4944 : H4925 m 5 = H m 5 := ((f4930 m 5 _ gm rfl).trans (f4909 m 5 _ gm rfl))
  have q4945 : H4925 m 5 = (tm : Int) := k4944.trans em
  have k4946 : H4925 x 6 = H x 6 := ((f4930 x 6 _ gx rfl).trans (f4909 x 6 _ gx rfl))
  have q4947 : H4925 x 6 = (cu : Int) := k4946.trans ecu
  have k4948 : H4925 x 7 = H x 7 := ((f4930 x 7 _ gx rfl).trans (f4909 x 7 _ gx rfl))
  have q4949 : H4925 x 7 = (dr : Int) := k4948.trans edr
  have h4950 : CEN T H4925 ce8 e8 d8 := (CEN_fr w4908 gce8 f4930 rfl p4912)
  have h4951 : TP T H4925 tc B := (TP_fr w4908 gtc f4930 rfl (TP_fr hW gtc f4909 rfl htc))
  have h4952 : TM T H4925 tm B := (TM_fr w4908 gtm f4930 rfl (TM_fr hW gtm f4909 rfl htm))
  have h4953 : DD T H4925 cu  := (DD_fr w4908 gcu f4930 rfl (DD_fr hW gcu f4909 rfl hcu))
  have h4954 : DD T H4925 dr  := (DD_fr w4908 gdr f4930 rfl (DD_fr hW gdr f4909 rfl hdr))
  have h4955 : DE T H4925 cu  := (DE_fr w4908 gcu f4930 rfl (DE_fr hW gcu f4909 rfl hdec))
  have h4956 : DE T H4925 dr  := (DE_fr w4908 gdr f4930 rfl (DE_fr hW gdr f4909 rfl hded))
  have h4957 : SP T H4925 x C8 := (SP_fr w4908 gx f4930 rfl (SP_fr hW gx f4909 rfl hsp))
  have h4958 : CU T H4925 cu e8 d8 n8 := (CU_fr w4908 gcu f4930 rfl (CU_fr hW gcu f4909 rfl hcu8))
  have h4959 : CY T H4925 cu (d8 0 3) g8 (H cu 17) := (CY_fr w4908 gcu f4930 rfl (CY_fr hW gcu f4909 rfl h4897))
  have k4960 : H4925 x 3 = H x 3 := ((f4930 x 3 _ gx rfl).trans (f4909 x 3 _ gx rfl))
  have q4961 : H4925 x 3 = (ce8 : Int) := k4960.trans ece8
  have h4962 : HDR T H4925 ce8  := (HDR_fr w4908 gce8 f4930 rfl (HDR_fr hW gce8 f4909 rfl hhdr8))
  have h4963 : RY T H4925 m (d8 0 3) g8 (H m 32) := (RY_fr w4908 gm f4930 rfl (RY_fr hW gm f4909 rfl h4898))
  have h4964 : RB T H4925 m e8 d8 := (RB_fr w4908 gm f4930 rfl h4921)
  exact WL.loc hX (by simp) (next T H4925 ⟨⟨w4929, g0, gx, gm, go, by omega, by omega⟩, ⟨_, tc, tm, cu, dr, _, _, _, _, _, ce8, q4943, gtc, h4951, q4945, gtm, h4952, q4947, gcu, q4949, gdr, h4953, h4954, h4955, h4956, h4957, hC1, hC2, h4958, h4964, (h4959).1, (h4963).1, hE, hZ, (by omega), (by assumption), (by omega), (by first | assumption | exact SG_0), q4961, gce8, h4950, h4962, a4935, gm⟩, by omega, by omega⟩ (by omega) (by omega))
set_option maxHeartbeats 4000000 in
theorem wl_c35 {kt : Nat → Option mc_E} {CB SB : Nat} {X : mc_S → Prop} {T : wq_T} {H : wq_H} {Len x m o : Nat} {i : Int} (hX : wlX kt CB SB X) (hb : T.2.1 ≤ CB ∧ T.2.2.1 ≤ SB) (hI : wlJ Len x m o T H) (hL : Len ≤ 3072) (hi : 0 ≤ i ∧ i + 6 ≤ Len) (hb2 : T.2.1 + 20 ≤ CB ∧ T.2.2.1 + 500 ≤ SB)  (next : ∀ T' H', wlJ Len x m o T' H' → T'.2.1 ≤ T.2.1 + 20 → T'.2.2.1 ≤ T.2.2.1 + 500 → WL kt CB SB X 1654 (wlL i x m o) [] T' H') : WL kt CB SB X 1264 (wlL i x m o) [] T H := by
  obtain ⟨⟨hW, g0, gx, gm, go, hK, hr⟩, hXI, hY1, hY2⟩ := hI
  refine wl_of hX hb cL_1264 (rw_aload_n (pc' := 1265) (v := .ref x) rfl rfl rfl ?_)
  refine wl_of hX hb cL_1265 (rw_aload_n (pc' := 1266) (v := .ref 0) rfl rfl rfl ?_)
  refine wl_of hX hb cL_1266 (rw_iload (pc' := 1268) (z := i) rfl rfl ?_)
  refine wl_of hX hb cL_1268 (rw_iconst (pc' := 1269) rfl ?_)
  refine wl_of hX hb cL_1269 (rw_iadd (pc' := 1270) rfl ?_)
  refine wl_of hX hb cL_1270 (xa_I (so := 0) (pc' := 1271) (a := 0) hW g0 (wsh_s _) (by omega) (wty_s _ _) (by omega) (by omega) rfl (fun b4965 b4966 => ?_))
  refine wl_of hX hb cL_1271 (rw_aload_n (pc' := 1272) (v := .ref 0) rfl rfl rfl ?_)
  refine wl_of hX hb cL_1272 (rw_iload (pc' := 1274) (z := i) rfl rfl ?_)
  refine wl_of hX hb cL_1274 (rw_iconst (pc' := 1275) rfl ?_)
  refine wl_of hX hb cL_1275 (rw_iadd (pc' := 1276) rfl ?_)
  refine wl_of hX hb cL_1276 (xa_I (so := 0) (pc' := 1277) (a := 0) hW g0 (wsh_s _) (by omega) (wty_s _ _) (by omega) (by omega) rfl (fun b4967 b4968 => ?_))
  refine wl_of hX hb cL_1277 (rw_if_eq (p1 := 1284) (p2 := 1280) (by decide) rfl ⟨by omega, by omega⟩ (fun c4969 => ?_) (fun c4969 => ?_))
  · refine wl_of hX hb cL_1284 (rw_iconst (pc' := 1285) rfl ?_)
    obtain ⟨B, tc, tm, cu, dr, C8, e8, d8, n8, g8, ce8, e0, gtc, htc, em, gtm, htm, ecu, gcu, edr, gdr, hcu, hdr, hdec, hded, hsp, hC1, hC2, hcu8, hrb8, hcg8, hmn8, hE, hZ, hn8, hXA, hV8, hSG, ece8, gce8, hcen8, hhdr8, hknn8, -⟩ := hXI
    have hN3 := RB_n3 hrb8
    have hE13 : ∀ h : Nat, h < 24 → 0 ≤ e8 13 h ∧ e8 13 h ≤ 100 := fun k hk => by
      obtain ⟨s, h1, h2, h3⟩ := hcu8.1.2.2.1
      exact ⟨(h3 k hk).1, (h3 k hk).2.1⟩
    have hXW := hXA.1
    have hXN := hXA.2
    have hE0 : e8 0 3 = d8 0 3 ∧ e8 0 0 = d8 0 0 := by
      have h := hE 0 (by decide)
      exact ⟨congrFun h 3, congrFun h 0⟩
    have u4970 := CU_k hcu8
    have h4971 : CY T H cu (d8 0 3) g8 (H cu 17) := ⟨hcg8, rfl⟩
    have h4972 : RY T H m (d8 0 3) g8 (H m 32) := ⟨hmn8, rfl⟩
    obtain ⟨t9, ht9⟩ : ∃ t : Int, t = H x 9 := ⟨_, rfl⟩
    obtain ⟨y9, hy9⟩ : ∃ y : Int, y = 0 := ⟨_, rfl⟩
    obtain ⟨r4973, q4974, g4975⟩ := hW.ref gx (t' := 6) (n := 13) (j := 2) (p := 0) (q := 0) rfl (by decide) rfl
    refine wl_of hX hb cL_1285 (xc_V (pc' := 1288) (r := x) (as := [vI (H 0 ((i + 1).toNat)), vI 0]) (st := []) (lm_11_167) rfl rfl (Nat.le_of_ble_eq_true rfl) hW gx sh_1 (by decide) rfl (by decide) (u_146 (e := e8) (d := d8) (n := n8) hW gx ⟨by omega, by omega⟩ ⟨by decide, by decide⟩ ecu gcu q4974 g4975 ece8 gce8 (by assumption) (by assumption) (by omega) (by omega) (by omega) (by omega) hcu8 hcen8 hhdr8) (fun R4976 T4977 H4978 p4979 => ?_))
    obtain ⟨e4980, w4982, f4983, z4984, e4981, b4985, p4986⟩ := p4979
    subst e4980
    subst e4981
    show WL _ _ _ _ 1288 [(4, vI i), (3, .ref o), (2, .ref m), (1, .ref x), (0, .ref 0)] [vI z4984] _ H4978
    refine wl_of hX hb cL_1288 (rw_pop (pc' := 1289) rfl rfl ?_)
    refine wl_of hX hb cL_1289 (rw_aload_n (pc' := 1290) (v := .ref m) rfl rfl rfl ?_)
    refine wl_of hX hb cL_1290 (rw_aload_n (pc' := 1291) (v := .ref 0) rfl rfl rfl ?_)
    refine wl_of hX hb cL_1291 (rw_iload (pc' := 1293) (z := i) rfl rfl ?_)
    refine wl_of hX hb cL_1293 (rw_iconst (pc' := 1294) rfl ?_)
    refine wl_of hX hb cL_1294 (rw_iadd (pc' := 1295) rfl ?_)
    have k4990 : H4978 0 ((i + 1).toNat) = H 0 ((i + 1).toNat) := (f4983 0 ((i + 1).toNat) _ g0 (wmem_s rfl))
    refine wl_of hX hb cL_1295 (xa_I (so := 0) (pc' := 1296) (a := 0) w4982 g0 (wsh_s _) (by omega) (wty_s _ _) (by omega) (by omega) rfl (fun b4988 b4989 => ?_))
    refine wl_of hX hb cL_1296 (rw_aload_n (pc' := 1297) (v := .ref 0) rfl rfl rfl ?_)
    refine wl_of hX hb cL_1297 (rw_iload (pc' := 1299) (z := i) rfl rfl ?_)
    refine wl_of hX hb cL_1299 (rw_iconst (pc' := 1300) rfl ?_)
    refine wl_of hX hb cL_1300 (rw_iadd (pc' := 1301) rfl ?_)
    have k4993 : H4978 0 ((i + 2).toNat) = H 0 ((i + 2).toNat) := (f4983 0 ((i + 2).toNat) _ g0 (wmem_s rfl))
    refine wl_of hX hb cL_1301 (xa_I (so := 0) (pc' := 1302) (a := 0) w4982 g0 (wsh_s _) (by omega) (wty_s _ _) (by omega) (by omega) rfl (fun b4991 b4992 => ?_))
    refine wl_of hX hb cL_1302 (rw_if_eq (p1 := 1309) (p2 := 1305) (by decide) rfl ⟨by omega, by omega⟩ (fun c4994 => ?_) (fun c4994 => ?_))
    · refine wl_of hX hb cL_1309 (rw_iconst (pc' := 1310) rfl ?_)
      have k4995 : wKI H4978 m = wKI H m := (wKI_fr hW gm f4983 rfl)
      have k4996 : H4978 x 9 = H x 9 := (f4983 x 9 _ gx rfl)
      have k4997 : H4978 m 6 = H m 6 := (f4983 m 6 _ gm rfl)
      have k4998 : H4978 x 11 = H x 11 := (f4983 x 11 _ gx rfl)
      have k4999 : H4978 m 13 = H m 13 := (f4983 m 13 _ gm rfl)
      have k5000 : H4978 x 8 = H x 8 := (f4983 x 8 _ gx rfl)
      have k5001 : H4978 m 3 = H m 3 := (f4983 m 3 _ gm rfl)
      rw [show H4978 0 ((i + 1).toNat) = H 0 ((i + 1).toNat) by omega]
      have h5002 : RB T H4978 m e8 d8 := (RB_fr hW gm f4983 rfl hrb8)
      have h5003 : KNN T H4978 m e8 d8 := (KNN_fr hW gm f4983 rfl hknn8)
      refine wl_of hX hb cL_1310 (xc_V (pc' := 1313) (r := m) (as := [vI (H 0 ((i + 1).toNat)), vI 0]) (st := []) (lm_11_170) rfl rfl (Nat.le_of_ble_eq_true rfl) w4982 gm sh_42 (by decide) rfl (by decide) (u_279 (e := e8) (d := d8) w4982 gm ⟨by omega, by omega⟩ ⟨by decide, by decide⟩ (by omega) (by assumption) (by assumption) (by assumption) (by assumption) h5002 h5003) (fun R5004 T5005 H5006 p5007 => ?_))
      obtain ⟨e5008, w5010, f5011, z5012, e5009, b5013, p5014⟩ := p5007
      subst e5008
      subst e5009
      obtain ⟨a5015, a5016⟩ := p5014
      show WL _ _ _ _ 1313 [(4, vI i), (3, .ref o), (2, .ref m), (1, .ref x), (0, .ref 0)] [vI z5012] _ H5006
      refine wl_of hX hb cL_1313 (rw_pop (pc' := 1314) rfl rfl ?_)
      refine wl_of hX hb cL_1314 (rw_goto (p1 := 1654) (by decide) ?_)
      have k5017 : H5006 x 9 = H4978 x 9 := (f5011 x 9 _ gx rfl)
      have k5018 : H5006 m 6 = H4978 m 6 := (f5011 m 6 _ gm rfl)
      have k5019 : H5006 x 11 = H4978 x 11 := (f5011 x 11 _ gx rfl)
      have k5020 : H5006 m 13 = H4978 m 13 := (f5011 m 13 _ gm rfl)
      have k5021 : H5006 x 8 = H4978 x 8 := (f5011 x 8 _ gx rfl)
      have k5022 : H5006 m 3 = H4978 m 3 := (f5011 m 3 _ gm rfl)
      have k5023 : H5006 x 0 = H x 0 := ((f5011 x 0 _ gx rfl).trans (f4983 x 0 _ gx rfl))
      have q5024 : H5006 x 0 = (tc : Int) := k5023.trans e0
      have k5025 : H5006 m 5 = H m 5 := ((f5011 m 5 _ gm rfl).trans (f4983 m 5 _ gm rfl))
      have q5026 : H5006 m 5 = (tm : Int) := k5025.trans em
      have k5027 : H5006 x 6 = H x 6 := ((f5011 x 6 _ gx rfl).trans (f4983 x 6 _ gx rfl))
      have q5028 : H5006 x 6 = (cu : Int) := k5027.trans ecu
      have k5029 : H5006 x 7 = H x 7 := ((f5011 x 7 _ gx rfl).trans (f4983 x 7 _ gx rfl))
      have q5030 : H5006 x 7 = (dr : Int) := k5029.trans edr
      have h5031 : CEN T H5006 ce8 e8 d8 := (CEN_fr w4982 gce8 f5011 rfl p4986)
      have h5032 : TP T H5006 tc B := (TP_fr w4982 gtc f5011 rfl (TP_fr hW gtc f4983 rfl htc))
      have h5033 : TM T H5006 tm B := (TM_fr w4982 gtm f5011 rfl (TM_fr hW gtm f4983 rfl htm))
      have h5034 : DD T H5006 cu  := (DD_fr w4982 gcu f5011 rfl (DD_fr hW gcu f4983 rfl hcu))
      have h5035 : DD T H5006 dr  := (DD_fr w4982 gdr f5011 rfl (DD_fr hW gdr f4983 rfl hdr))
      have h5036 : DE T H5006 cu  := (DE_fr w4982 gcu f5011 rfl (DE_fr hW gcu f4983 rfl hdec))
      have h5037 : DE T H5006 dr  := (DE_fr w4982 gdr f5011 rfl (DE_fr hW gdr f4983 rfl hded))
      have h5038 : SP T H5006 x C8 := (SP_fr w4982 gx f5011 rfl (SP_fr hW gx f4983 rfl hsp))
      have h5039 : CU T H5006 cu e8 d8 n8 := (CU_fr w4982 gcu f5011 rfl (CU_fr hW gcu f4983 rfl hcu8))
      have h5040 : CY T H5006 cu (d8 0 3) g8 (H cu 17) := (CY_fr w4982 gcu f5011 rfl (CY_fr hW gcu f4983 rfl h4971))
      have k5041 : H5006 x 3 = H x 3 := ((f5011 x 3 _ gx rfl).trans (f4983 x 3 _ gx rfl))
      have q5042 : H5006 x 3 = (ce8 : Int) := k5041.trans ece8
      have h5043 : HDR T H5006 ce8  := (HDR_fr w4982 gce8 f5011 rfl (HDR_fr hW gce8 f4983 rfl hhdr8))
      have h5044 : RY T H5006 m (d8 0 3) g8 (H m 32) := (RY_fr w4982 gm f5011 rfl (RY_fr hW gm f4983 rfl h4972))
      have h5045 : RB T H5006 m e8 d8 := (RB_fr w4982 gm f5011 rfl h5002)
      exact WL.loc hX (by simp) (next T H5006 ⟨⟨w5010, g0, gx, gm, go, by omega, by omega⟩, ⟨_, tc, tm, cu, dr, _, _, _, _, _, ce8, q5024, gtc, h5032, q5026, gtm, h5033, q5028, gcu, q5030, gdr, h5034, h5035, h5036, h5037, h5038, hC1, hC2, h5039, h5045, (h5040).1, (h5044).1, hE, hZ, (by omega), (by assumption), (by omega), (by first | assumption | exact SG_0), q5042, gce8, h5031, h5043, a5016, gm⟩, by omega, by omega⟩ (by omega) (by omega))
    · exfalso
      omega
  · refine wl_of hX hb cL_1280 (rw_iconst (pc' := 1281) rfl ?_)
    refine wl_of hX hb cL_1281 (rw_goto (p1 := 1285) (by decide) ?_)
    obtain ⟨B, tc, tm, cu, dr, C8, e8, d8, n8, g8, ce8, e0, gtc, htc, em, gtm, htm, ecu, gcu, edr, gdr, hcu, hdr, hdec, hded, hsp, hC1, hC2, hcu8, hrb8, hcg8, hmn8, hE, hZ, hn8, hXA, hV8, hSG, ece8, gce8, hcen8, hhdr8, hknn8, -⟩ := hXI
    have hN3 := RB_n3 hrb8
    have hE13 : ∀ h : Nat, h < 24 → 0 ≤ e8 13 h ∧ e8 13 h ≤ 100 := fun k hk => by
      obtain ⟨s, h1, h2, h3⟩ := hcu8.1.2.2.1
      exact ⟨(h3 k hk).1, (h3 k hk).2.1⟩
    have hXW := hXA.1
    have hXN := hXA.2
    have hE0 : e8 0 3 = d8 0 3 ∧ e8 0 0 = d8 0 0 := by
      have h := hE 0 (by decide)
      exact ⟨congrFun h 3, congrFun h 0⟩
    have u5046 := CU_k hcu8
    have h5047 : CY T H cu (d8 0 3) g8 (H cu 17) := ⟨hcg8, rfl⟩
    have h5048 : RY T H m (d8 0 3) g8 (H m 32) := ⟨hmn8, rfl⟩
    obtain ⟨t9, ht9⟩ : ∃ t : Int, t = H x 9 := ⟨_, rfl⟩
    obtain ⟨y9, hy9⟩ : ∃ y : Int, y = 1 := ⟨_, rfl⟩
    obtain ⟨r5049, q5050, g5051⟩ := hW.ref gx (t' := 6) (n := 13) (j := 2) (p := 0) (q := 0) rfl (by decide) rfl
    refine wl_of hX hb cL_1285 (xc_V (pc' := 1288) (r := x) (as := [vI (H 0 ((i + 1).toNat)), vI 1]) (st := []) (lm_11_167) rfl rfl (Nat.le_of_ble_eq_true rfl) hW gx sh_1 (by decide) rfl (by decide) (u_146 (e := e8) (d := d8) (n := n8) hW gx ⟨by omega, by omega⟩ ⟨by decide, by decide⟩ ecu gcu q5050 g5051 ece8 gce8 (by assumption) (by assumption) (by omega) (by omega) (by omega) (by omega) hcu8 hcen8 hhdr8) (fun R5052 T5053 H5054 p5055 => ?_))
    obtain ⟨e5056, w5058, f5059, z5060, e5057, b5061, p5062⟩ := p5055
    subst e5056
    subst e5057
    show WL _ _ _ _ 1288 [(4, vI i), (3, .ref o), (2, .ref m), (1, .ref x), (0, .ref 0)] [vI z5060] _ H5054
    refine wl_of hX hb cL_1288 (rw_pop (pc' := 1289) rfl rfl ?_)
    refine wl_of hX hb cL_1289 (rw_aload_n (pc' := 1290) (v := .ref m) rfl rfl rfl ?_)
    refine wl_of hX hb cL_1290 (rw_aload_n (pc' := 1291) (v := .ref 0) rfl rfl rfl ?_)
    refine wl_of hX hb cL_1291 (rw_iload (pc' := 1293) (z := i) rfl rfl ?_)
    refine wl_of hX hb cL_1293 (rw_iconst (pc' := 1294) rfl ?_)
    refine wl_of hX hb cL_1294 (rw_iadd (pc' := 1295) rfl ?_)
    have k5066 : H5054 0 ((i + 1).toNat) = H 0 ((i + 1).toNat) := (f5059 0 ((i + 1).toNat) _ g0 (wmem_s rfl))
    refine wl_of hX hb cL_1295 (xa_I (so := 0) (pc' := 1296) (a := 0) w5058 g0 (wsh_s _) (by omega) (wty_s _ _) (by omega) (by omega) rfl (fun b5064 b5065 => ?_))
    refine wl_of hX hb cL_1296 (rw_aload_n (pc' := 1297) (v := .ref 0) rfl rfl rfl ?_)
    refine wl_of hX hb cL_1297 (rw_iload (pc' := 1299) (z := i) rfl rfl ?_)
    refine wl_of hX hb cL_1299 (rw_iconst (pc' := 1300) rfl ?_)
    refine wl_of hX hb cL_1300 (rw_iadd (pc' := 1301) rfl ?_)
    have k5069 : H5054 0 ((i + 2).toNat) = H 0 ((i + 2).toNat) := (f5059 0 ((i + 2).toNat) _ g0 (wmem_s rfl))
    refine wl_of hX hb cL_1301 (xa_I (so := 0) (pc' := 1302) (a := 0) w5058 g0 (wsh_s _) (by omega) (wty_s _ _) (by omega) (by omega) rfl (fun b5067 b5068 => ?_))
    refine wl_of hX hb cL_1302 (rw_if_eq (p1 := 1309) (p2 := 1305) (by decide) rfl ⟨by omega, by omega⟩ (fun c5070 => ?_) (fun c5070 => ?_))
    · refine wl_of hX hb cL_1309 (rw_iconst (pc' := 1310) rfl ?_)
      have k5071 : wKI H5054 m = wKI H m := (wKI_fr hW gm f5059 rfl)
      have k5072 : H5054 x 9 = H x 9 := (f5059 x 9 _ gx rfl)
      have k5073 : H5054 m 6 = H m 6 := (f5059 m 6 _ gm rfl)
      have k5074 : H5054 x 11 = H x 11 := (f5059 x 11 _ gx rfl)
      have k5075 : H5054 m 13 = H m 13 := (f5059 m 13 _ gm rfl)
      have k5076 : H5054 x 8 = H x 8 := (f5059 x 8 _ gx rfl)
      have k5077 : H5054 m 3 = H m 3 := (f5059 m 3 _ gm rfl)
      rw [show H5054 0 ((i + 1).toNat) = H 0 ((i + 1).toNat) by omega]
      have h5078 : RB T H5054 m e8 d8 := (RB_fr hW gm f5059 rfl hrb8)
      have h5079 : KNN T H5054 m e8 d8 := (KNN_fr hW gm f5059 rfl hknn8)
      refine wl_of hX hb cL_1310 (xc_V (pc' := 1313) (r := m) (as := [vI (H 0 ((i + 1).toNat)), vI 0]) (st := []) (lm_11_170) rfl rfl (Nat.le_of_ble_eq_true rfl) w5058 gm sh_42 (by decide) rfl (by decide) (u_279 (e := e8) (d := d8) w5058 gm ⟨by omega, by omega⟩ ⟨by decide, by decide⟩ (by omega) (by assumption) (by assumption) (by assumption) (by assumption) h5078 h5079) (fun R5080 T5081 H5082 p5083 => ?_))
      obtain ⟨e5084, w5086, f5087, z5088, e5085, b5089, p5090⟩ := p5083
      subst e5084
      subst e5085
      obtain ⟨a5091, a5092⟩ := p5090
      show WL _ _ _ _ 1313 [(4, vI i), (3, .ref o), (2, .ref m), (1, .ref x), (0, .ref 0)] [vI z5088] _ H5082
      refine wl_of hX hb cL_1313 (rw_pop (pc' := 1314) rfl rfl ?_)
      refine wl_of hX hb cL_1314 (rw_goto (p1 := 1654) (by decide) ?_)
      have k5093 : H5082 x 9 = H5054 x 9 := (f5087 x 9 _ gx rfl)
      have k5094 : H5082 m 6 = H5054 m 6 := (f5087 m 6 _ gm rfl)
      have k5095 : H5082 x 11 = H5054 x 11 := (f5087 x 11 _ gx rfl)
      have k5096 : H5082 m 13 = H5054 m 13 := (f5087 m 13 _ gm rfl)
      have k5097 : H5082 x 8 = H5054 x 8 := (f5087 x 8 _ gx rfl)
      have k5098 : H5082 m 3 = H5054 m 3 := (f5087 m 3 _ gm rfl)
      have k5099 : H5082 x 0 = H x 0 := ((f5087 x 0 _ gx rfl).trans (f5059 x 0 _ gx rfl))
      have q5100 : H5082 x 0 = (tc : Int) := k5099.trans e0
      have k5101 : H5082 m 5 = H m 5 := ((f5087 m 5 _ gm rfl).trans (f5059 m 5 _ gm rfl))
      have q5102 : H5082 m 5 = (tm : Int) := k5101.trans em
      have k5103 : H5082 x 6 = H x 6 := ((f5087 x 6 _ gx rfl).trans (f5059 x 6 _ gx rfl))
      have q5104 : H5082 x 6 = (cu : Int) := k5103.trans ecu
      have k5105 : H5082 x 7 = H x 7 := ((f5087 x 7 _ gx rfl).trans (f5059 x 7 _ gx rfl))
      have q5106 : H5082 x 7 = (dr : Int) := k5105.trans edr
      have h5107 : CEN T H5082 ce8 e8 d8 := (CEN_fr w5058 gce8 f5087 rfl p5062)
      have h5108 : TP T H5082 tc B := (TP_fr w5058 gtc f5087 rfl (TP_fr hW gtc f5059 rfl htc))
      have h5109 : TM T H5082 tm B := (TM_fr w5058 gtm f5087 rfl (TM_fr hW gtm f5059 rfl htm))
      have h5110 : DD T H5082 cu  := (DD_fr w5058 gcu f5087 rfl (DD_fr hW gcu f5059 rfl hcu))
      have h5111 : DD T H5082 dr  := (DD_fr w5058 gdr f5087 rfl (DD_fr hW gdr f5059 rfl hdr))
      have h5112 : DE T H5082 cu  := (DE_fr w5058 gcu f5087 rfl (DE_fr hW gcu f5059 rfl hdec))
      have h5113 : DE T H5082 dr  := (DE_fr w5058 gdr f5087 rfl (DE_fr hW gdr f5059 rfl hded))
      have h5114 : SP T H5082 x C8 := (SP_fr w5058 gx f5087 rfl (SP_fr hW gx f5059 rfl hsp))
      have h5115 : CU T H5082 cu e8 d8 n8 := (CU_fr w5058 gcu f5087 rfl (CU_fr hW gcu f5059 rfl hcu8))
      have h5116 : CY T H5082 cu (d8 0 3) g8 (H cu 17) := (CY_fr w5058 gcu f5087 rfl (CY_fr hW gcu f5059 rfl h5047))
      have k5117 : H5082 x 3 = H x 3 := ((f5087 x 3 _ gx rfl).trans (f5059 x 3 _ gx rfl))
      have q5118 : H5082 x 3 = (ce8 : Int) := k5117.trans ece8
      have h5119 : HDR T H5082 ce8  := (HDR_fr w5058 gce8 f5087 rfl (HDR_fr hW gce8 f5059 rfl hhdr8))
      have h5120 : RY T H5082 m (d8 0 3) g8 (H m 32) := (RY_fr w5058 gm f5087 rfl (RY_fr hW gm f5059 rfl h5048))
      have h5121 : RB T H5082 m e8 d8 := (RB_fr w5058 gm f5087 rfl h5078)
      exact WL.loc hX (by simp) (next T H5082 ⟨⟨w5086, g0, gx, gm, go, by omega, by omega⟩, ⟨_, tc, tm, cu, dr, _, _, _, _, _, ce8, q5100, gtc, h5108, q5102, gtm, h5109, q5104, gcu, q5106, gdr, h5110, h5111, h5112, h5113, h5114, hC1, hC2, h5115, h5121, (h5116).1, (h5120).1, hE, hZ, (by omega), (by assumption), (by omega), (by first | assumption | exact SG_0), q5118, gce8, h5107, h5119, a5092, gm⟩, by omega, by omega⟩ (by omega) (by omega))
    · refine wl_of hX hb cL_1305 (rw_iconst (pc' := 1306) rfl ?_)
      refine wl_of hX hb cL_1306 (rw_goto (p1 := 1310) (by decide) ?_)
      have k5122 : wKI H5054 m = wKI H m := (wKI_fr hW gm f5059 rfl)
      have k5123 : H5054 x 9 = H x 9 := (f5059 x 9 _ gx rfl)
      have k5124 : H5054 m 6 = H m 6 := (f5059 m 6 _ gm rfl)
      have k5125 : H5054 x 11 = H x 11 := (f5059 x 11 _ gx rfl)
      have k5126 : H5054 m 13 = H m 13 := (f5059 m 13 _ gm rfl)
      have k5127 : H5054 x 8 = H x 8 := (f5059 x 8 _ gx rfl)
      have k5128 : H5054 m 3 = H m 3 := (f5059 m 3 _ gm rfl)
      rw [show H5054 0 ((i + 1).toNat) = H 0 ((i + 1).toNat) by omega]
      have h5129 : RB T H5054 m e8 d8 := (RB_fr hW gm f5059 rfl hrb8)
      have h5130 : KNN T H5054 m e8 d8 := (KNN_fr hW gm f5059 rfl hknn8)
      refine wl_of hX hb cL_1310 (xc_V (pc' := 1313) (r := m) (as := [vI (H 0 ((i + 1).toNat)), vI 1]) (st := []) (lm_11_170) rfl rfl (Nat.le_of_ble_eq_true rfl) w5058 gm sh_42 (by decide) rfl (by decide) (u_279 (e := e8) (d := d8) w5058 gm ⟨by omega, by omega⟩ ⟨by decide, by decide⟩ (by omega) (by assumption) (by assumption) (by assumption) (by assumption) h5129 h5130) (fun R5131 T5132 H5133 p5134 => ?_))
      obtain ⟨e5135, w5137, f5138, z5139, e5136, b5140, p5141⟩ := p5134
      subst e5135
      subst e5136
      obtain ⟨a5142, a5143⟩ := p5141
      show WL _ _ _ _ 1313 [(4, vI i), (3, .ref o), (2, .ref m), (1, .ref x), (0, .ref 0)] [vI z5139] _ H5133
      refine wl_of hX hb cL_1313 (rw_pop (pc' := 1314) rfl rfl ?_)
      refine wl_of hX hb cL_1314 (rw_goto (p1 := 1654) (by decide) ?_)
      have k5144 : H5133 x 9 = H5054 x 9 := (f5138 x 9 _ gx rfl)
      have k5145 : H5133 m 6 = H5054 m 6 := (f5138 m 6 _ gm rfl)
      have k5146 : H5133 x 11 = H5054 x 11 := (f5138 x 11 _ gx rfl)
      have k5147 : H5133 m 13 = H5054 m 13 := (f5138 m 13 _ gm rfl)
      have k5148 : H5133 x 8 = H5054 x 8 := (f5138 x 8 _ gx rfl)
      have k5149 : H5133 m 3 = H5054 m 3 := (f5138 m 3 _ gm rfl)
      have k5150 : H5133 x 0 = H x 0 := ((f5138 x 0 _ gx rfl).trans (f5059 x 0 _ gx rfl))
      have q5151 : H5133 x 0 = (tc : Int) := k5150.trans e0
      have k5152 : H5133 m 5 = H m 5 := ((f5138 m 5 _ gm rfl).trans (f5059 m 5 _ gm rfl))
      have q5153 : H5133 m 5 = (tm : Int) := k5152.trans em
      have k5154 : H5133 x 6 = H x 6 := ((f5138 x 6 _ gx rfl).trans (f5059 x 6 _ gx rfl))
      have q5155 : H5133 x 6 = (cu : Int) := k5154.trans ecu
      have k5156 : H5133 x 7 = H x 7 := ((f5138 x 7 _ gx rfl).trans (f5059 x 7 _ gx rfl))
      have q5157 : H5133 x 7 = (dr : Int) := k5156.trans edr
      have h5158 : CEN T H5133 ce8 e8 d8 := (CEN_fr w5058 gce8 f5138 rfl p5062)
      have h5159 : TP T H5133 tc B := (TP_fr w5058 gtc f5138 rfl (TP_fr hW gtc f5059 rfl htc))
      have h5160 : TM T H5133 tm B := (TM_fr w5058 gtm f5138 rfl (TM_fr hW gtm f5059 rfl htm))
      have h5161 : DD T H5133 cu  := (DD_fr w5058 gcu f5138 rfl (DD_fr hW gcu f5059 rfl hcu))
      have h5162 : DD T H5133 dr  := (DD_fr w5058 gdr f5138 rfl (DD_fr hW gdr f5059 rfl hdr))
      have h5163 : DE T H5133 cu  := (DE_fr w5058 gcu f5138 rfl (DE_fr hW gcu f5059 rfl hdec))
      have h5164 : DE T H5133 dr  := (DE_fr w5058 gdr f5138 rfl (DE_fr hW gdr f5059 rfl hded))
      have h5165 : SP T H5133 x C8 := (SP_fr w5058 gx f5138 rfl (SP_fr hW gx f5059 rfl hsp))
      have h5166 : CU T H5133 cu e8 d8 n8 := (CU_fr w5058 gcu f5138 rfl (CU_fr hW gcu f5059 rfl hcu8))
      have h5167 : CY T H5133 cu (d8 0 3) g8 (H cu 17) := (CY_fr w5058 gcu f5138 rfl (CY_fr hW gcu f5059 rfl h5047))
      have k5168 : H5133 x 3 = H x 3 := ((f5138 x 3 _ gx rfl).trans (f5059 x 3 _ gx rfl))
      have q5169 : H5133 x 3 = (ce8 : Int) := k5168.trans ece8
      have h5170 : HDR T H5133 ce8  := (HDR_fr w5058 gce8 f5138 rfl (HDR_fr hW gce8 f5059 rfl hhdr8))
      have h5171 : RY T H5133 m (d8 0 3) g8 (H m 32) := (RY_fr w5058 gm f5138 rfl (RY_fr hW gm f5059 rfl h5048))
      have h5172 : RB T H5133 m e8 d8 := (RB_fr w5058 gm f5138 rfl h5129)
      exact WL.loc hX (by simp) (next T H5133 ⟨⟨w5137, g0, gx, gm, go, by omega, by omega⟩, ⟨_, tc, tm, cu, dr, _, _, _, _, _, ce8, q5151, gtc, h5159, q5153, gtm, h5160, q5155, gcu, q5157, gdr, h5161, h5162, h5163, h5164, h5165, hC1, hC2, h5166, h5172, (h5167).1, (h5171).1, hE, hZ, (by omega), (by assumption), (by omega), (by first | assumption | exact SG_0), q5169, gce8, h5158, h5170, a5143, gm⟩, by omega, by omega⟩ (by omega) (by omega))
