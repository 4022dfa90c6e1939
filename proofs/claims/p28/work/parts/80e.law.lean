/-! THE LAW, GONE ON WITH (own work) -/
set_option maxHeartbeats 4000000 in
theorem wl_c29 {kt : Nat → Option mc_E} {CB SB : Nat} {X : mc_S → Prop} {T : wq_T} {H : wq_H} {Len x m o : Nat} {i : Int} (hX : wlX kt CB SB X) (hb : T.2.1 ≤ CB ∧ T.2.2.1 ≤ SB) (hI : wlJ Len x m o T H) (hL : Len ≤ 3072) (hi : 0 ≤ i ∧ i + 6 ≤ Len) (hb2 : T.2.1 + 20 ≤ CB ∧ T.2.2.1 + 500 ≤ SB)  (next : ∀ T' H', wlJ Len x m o T' H' → T'.2.1 ≤ T.2.1 + 20 → T'.2.2.1 ≤ T.2.2.1 + 500 → WL kt CB SB X 1654 (wlL i x m o) [] T' H') : WL kt CB SB X 1110 (wlL i x m o) [] T H := by
  obtain ⟨⟨hW, g0, gx, gm, go, hK, hr⟩, hXI, hY1, hY2⟩ := hI
  refine wl_of hX hb cL_1110 (rw_aload_n (pc' := 1111) (v := .ref x) rfl rfl rfl ?_)
  refine wl_of hX hb cL_1111 (rw_aload_n (pc' := 1112) (v := .ref 0) rfl rfl rfl ?_)
  refine wl_of hX hb cL_1112 (rw_iload (pc' := 1114) (z := i) rfl rfl ?_)
  refine wl_of hX hb cL_1114 (rw_iconst (pc' := 1115) rfl ?_)
  refine wl_of hX hb cL_1115 (rw_iadd (pc' := 1116) rfl ?_)
  refine wl_of hX hb cL_1116 (xa_I (so := 0) (pc' := 1117) (a := 0) hW g0 (wsh_s _) (by omega) (wty_s _ _) (by omega) (by omega) rfl (fun b4400 b4401 => ?_))
  refine wl_of hX hb cL_1117 (rw_aload_n (pc' := 1118) (v := .ref 0) rfl rfl rfl ?_)
  refine wl_of hX hb cL_1118 (rw_iload (pc' := 1120) (z := i) rfl rfl ?_)
  refine wl_of hX hb cL_1120 (rw_iconst (pc' := 1121) rfl ?_)
  refine wl_of hX hb cL_1121 (rw_iadd (pc' := 1122) rfl ?_)
  refine wl_of hX hb cL_1122 (xa_I (so := 0) (pc' := 1123) (a := 0) hW g0 (wsh_s _) (by omega) (wty_s _ _) (by omega) (by omega) rfl (fun b4402 b4403 => ?_))
  refine wl_of hX hb cL_1123 (rw_if_eq (p1 := 1130) (p2 := 1126) (by decide) rfl ⟨by omega, by omega⟩ (fun c4404 => ?_) (fun c4404 => ?_))
  · refine wl_of hX hb cL_1130 (rw_iconst (pc' := 1131) rfl ?_)
    obtain ⟨B, tc, tm, cu, dr, C8, e8, d8, n8, g8, ce8, e0, gtc, htc, em, gtm, htm, ecu, gcu, edr, gdr, hcu, hdr, hdec, hded, hsp, hC1, hC2, hcu8, hrb8, hcg8, hmn8, hE, hZ, hn8, hXA, hV8, hSG, ece8, gce8, hcen8, hhdr8, hknn8, -⟩ := hXI
    have hN3 := RB_n3 hrb8
    have hE13 : ∀ h : Nat, h < 24 → 0 ≤ e8 13 h ∧ e8 13 h ≤ 100 := fun k hk => by
      obtain ⟨s, h1, h2, h3⟩ := hcu8.1.2.2.1
      exact ⟨(h3 k hk).1, (h3 k hk).2.1⟩
    have hXW := hXA.1
    have hXN := hXA.2
    have hE0 : e8 0 3 = d8 0 3 ∧ e8 0 0 = d8 0 0 := by
      have h := hE 0 (by decide)
      exact ⟨congrFun h 3, congrFun h 0⟩
    have u4405 := CU_k hcu8
    have h4406 : CY T H cu (d8 0 3) g8 (H cu 17) := ⟨hcg8, rfl⟩
    have h4407 : RY T H m (d8 0 3) g8 (H m 32) := ⟨hmn8, rfl⟩
    obtain ⟨t9, ht9⟩ : ∃ t : Int, t = H x 9 := ⟨_, rfl⟩
    obtain ⟨y9, hy9⟩ : ∃ y : Int, y = 0 := ⟨_, rfl⟩
    obtain ⟨r4408, q4409, g4410⟩ := hW.ref gx (t' := 6) (n := 13) (j := 2) (p := 0) (q := 0) rfl (by decide) rfl
    refine wl_of hX hb cL_1131 (xc_V (pc' := 1134) (r := x) (as := [vI (H 0 ((i + 1).toNat)), vI 0]) (st := []) (lm_11_143) rfl rfl (Nat.le_of_ble_eq_true rfl) hW gx sh_1 (by decide) rfl (by decide) (u_119 (e := e8) (d := d8) (n := n8) hW gx ⟨by omega, by omega⟩ ⟨by decide, by decide⟩ ecu gcu q4409 g4410 ece8 gce8 (by assumption) (by assumption) (by omega) (by omega) (by omega) (by omega) hcu8 hcen8 hhdr8) (fun R4411 T4412 H4413 p4414 => ?_))
    obtain ⟨e4415, w4417, f4418, z4419, e4416, b4420, p4421⟩ := p4414
    subst e4415
    subst e4416
    show WL _ _ _ _ 1134 [(4, vI i), (3, .ref o), (2, .ref m), (1, .ref x), (0, .ref 0)] [vI z4419] _ H4413
    refine wl_of hX hb cL_1134 (rw_pop (pc' := 1135) rfl rfl ?_)
    refine wl_of hX hb cL_1135 (rw_aload_n (pc' := 1136) (v := .ref m) rfl rfl rfl ?_)
    refine wl_of hX hb cL_1136 (rw_aload_n (pc' := 1137) (v := .ref 0) rfl rfl rfl ?_)
    refine wl_of hX hb cL_1137 (rw_iload (pc' := 1139) (z := i) rfl rfl ?_)
    refine wl_of hX hb cL_1139 (rw_iconst (pc' := 1140) rfl ?_)
    refine wl_of hX hb cL_1140 (rw_iadd (pc' := 1141) rfl ?_)
    have k4425 : H4413 0 ((i + 1).toNat) = H 0 ((i + 1).toNat) := (f4418 0 ((i + 1).toNat) _ g0 (wmem_s rfl))
    refine wl_of hX hb cL_1141 (xa_I (so := 0) (pc' := 1142) (a := 0) w4417 g0 (wsh_s _) (by omega) (wty_s _ _) (by omega) (by omega) rfl (fun b4423 b4424 => ?_))
    refine wl_of hX hb cL_1142 (rw_aload_n (pc' := 1143) (v := .ref 0) rfl rfl rfl ?_)
    refine wl_of hX hb cL_1143 (rw_iload (pc' := 1145) (z := i) rfl rfl ?_)
    refine wl_of hX hb cL_1145 (rw_iconst (pc' := 1146) rfl ?_)
    refine wl_of hX hb cL_1146 (rw_iadd (pc' := 1147) rfl ?_)
    have k4428 : H4413 0 ((i + 2).toNat) = H 0 ((i + 2).toNat) := (f4418 0 ((i + 2).toNat) _ g0 (wmem_s rfl))
    refine wl_of hX hb cL_1147 (xa_I (so := 0) (pc' := 1148) (a := 0) w4417 g0 (wsh_s _) (by omega) (wty_s _ _) (by omega) (by omega) rfl (fun b4426 b4427 => ?_))
    refine wl_of hX hb cL_1148 (rw_if_eq (p1 := 1155) (p2 := 1151) (by decide) rfl ⟨by omega, by omega⟩ (fun c4429 => ?_) (fun c4429 => ?_))
    · refine wl_of hX hb cL_1155 (rw_iconst (pc' := 1156) rfl ?_)
      have k4430 : wKI H4413 m = wKI H m := (wKI_fr hW gm f4418 rfl)
      have k4431 : H4413 x 9 = H x 9 := (f4418 x 9 _ gx rfl)
      have k4432 : H4413 m 6 = H m 6 := (f4418 m 6 _ gm rfl)
      have k4433 : H4413 x 11 = H x 11 := (f4418 x 11 _ gx rfl)
      have k4434 : H4413 m 13 = H m 13 := (f4418 m 13 _ gm rfl)
      have k4435 : H4413 x 8 = H x 8 := (f4418 x 8 _ gx rfl)
      have k4436 : H4413 m 3 = H m 3 := (f4418 m 3 _ gm rfl)
      rw [show H4413 0 ((i + 1).toNat) = H 0 ((i + 1).toNat) by omega]
      have h4437 : RB T H4413 m e8 d8 := (RB_fr hW gm f4418 rfl hrb8)
      have h4438 : KNN T H4413 m e8 d8 := (KNN_fr hW gm f4418 rfl hknn8)
      refine wl_of hX hb cL_1156 (xc_V (pc' := 1159) (r := m) (as := [vI (H 0 ((i + 1).toNat)), vI 0]) (st := []) (lm_11_146) rfl rfl (Nat.le_of_ble_eq_true rfl) w4417 gm sh_42 (by decide) rfl (by decide) (u_265 (e := e8) (d := d8) w4417 gm ⟨by omega, by omega⟩ ⟨by decide, by decide⟩ (by omega) (by assumption) (by assumption) (by assumption) (by assumption) h4437 h4438) (fun R4439 T4440 H4441 p4442 => ?_))
      obtain ⟨e4443, w4445, f4446, z4447, e4444, b4448, p4449⟩ := p4442
      subst e4443
      subst e4444
      obtain ⟨a4450, a4451⟩ := p4449
      show WL _ _ _ _ 1159 [(4, vI i), (3, .ref o), (2, .ref m), (1, .ref x), (0, .ref 0)] [vI z4447] _ H4441
      refine wl_of hX hb cL_1159 (rw_pop (pc' := 1160) rfl rfl ?_)
      refine wl_of hX hb cL_1160 (rw_goto (p1 := 1654) (by decide) ?_)
      have k4452 : H4441 x 9 = H4413 x 9 := (f4446 x 9 _ gx rfl)
      have k4453 : H4441 m 6 = H4413 m 6 := (f4446 m 6 _ gm rfl)
      have k4454 : H4441 x 11 = H4413 x 11 := (f4446 x 11 _ gx rfl)
      have k4455 : H4441 m 13 = H4413 m 13 := (f4446 m 13 _ gm rfl)
      have k4456 : H4441 x 8 = H4413 x 8 := (f4446 x 8 _ gx rfl)
      have k4457 : H4441 m 3 = H4413 m 3 := (f4446 m 3 _ gm rfl)
      have k4458 : H4441 x 0 = H x 0 := ((f4446 x 0 _ gx rfl).trans (f4418 x 0 _ gx rfl))
      have q4459 : H4441 x 0 = (tc : Int) := k4458.trans e0
      have k4460 : H4441 m 5 = H m 5 := ((f4446 m 5 _ gm rfl).trans (f4418 m 5 _ gm rfl))
      have q4461 : H4441 m 5 = (tm : Int) := k4460.trans em
      have k4462 : H4441 x 6 = H x 6 := ((f4446 x 6 _ gx rfl).trans (f4418 x 6 _ gx rfl))
      have q4463 : H4441 x 6 = (cu : Int) := k4462.trans ecu
      have k4464 : H4441 x 7 = H x 7 := ((f4446 x 7 _ gx rfl).trans (f4418 x 7 _ gx rfl))
      have q4465 : H4441 x 7 = (dr : Int) := k4464.trans edr
      have h4466 : CEN T H4441 ce8 e8 d8 := (CEN_fr w4417 gce8 f4446 rfl p4421)
      have h4467 : TP T H4441 tc B := (TP_fr w4417 gtc f4446 rfl (TP_fr hW gtc f4418 rfl htc))
      have h4468 : TM T H4441 tm B := (TM_fr w4417 gtm f4446 rfl (TM_fr hW gtm f4418 rfl htm))
      have h4469 : DD T H4441 cu  := (DD_fr w4417 gcu f4446 rfl (DD_fr hW gcu f4418 rfl hcu))
      have h4470 : DD T H4441 dr  := (DD_fr w4417 gdr f4446 rfl (DD_fr hW gdr f4418 rfl hdr))
      have h4471 : DE T H4441 cu  := (DE_fr w4417 gcu f4446 rfl (DE_fr hW gcu f4418 rfl hdec))
      have h4472 : DE T H4441 dr  := (DE_fr w4417 gdr f4446 rfl (DE_fr hW gdr f4418 rfl hded))
      have h4473 : SP T H4441 x C8 := (SP_fr w4417 gx f4446 rfl (SP_fr hW gx f4418 rfl hsp))
      have h4474 : CU T H4441 cu e8 d8 n8 := (CU_fr w4417 gcu f4446 rfl (CU_fr hW gcu f4418 rfl hcu8))
      have h4475 : CY T H4441 cu (d8 0 3) g8 (H cu 17) := (CY_fr w4417 gcu f4446 rfl (CY_fr hW gcu f4418 rfl h4406))
      have k4476 : H4441 x 3 = H x 3 := ((f4446 x 3 _ gx rfl).trans (f4418 x 3 _ gx rfl))
      have q4477 : H4441 x 3 = (ce8 : Int) := k4476.trans ece8
      have h4478 : HDR T H4441 ce8  := (HDR_fr w4417 gce8 f4446 rfl (HDR_fr hW gce8 f4418 rfl hhdr8))
      have h4479 : RY T H4441 m (d8 0 3) g8 (H m 32) := (RY_fr w4417 gm f4446 rfl (RY_fr hW gm f4418 rfl h4407))
      have h4480 : RB T H4441 m e8 d8 := (RB_fr w4417 gm f4446 rfl h4437)
      exact WL.loc hX (by simp) (next T H4441 ⟨⟨w4445, g0, gx, gm, go, by omega, by omega⟩, ⟨_, tc, tm, cu, dr, _, _, _, _, _, ce8, q4459, gtc, h4467, q4461, gtm, h4468, q4463, gcu, q4465, gdr, h4469, h4470, h4471, h4472, h4473, hC1, hC2, h4474, h4480, (h4475).1, (h4479).1, hE, hZ, (by omega), (by assumption), (by omega), (by first | assumption | exact SG_0), q4477, gce8, h4466, h4478, a4451, gm⟩, by omega, by omega⟩ (by omega) (by omega))
    · exfalso
      omega
  · refine wl_of hX hb cL_1126 (rw_iconst (pc' := 1127) rfl ?_)
    refine wl_of hX hb cL_1127 (rw_goto (p1 := 1131) (by decide) ?_)
    obtain ⟨B, tc, tm, cu, dr, C8, e8, d8, n8, g8, ce8, e0, gtc, htc, em, gtm, htm, ecu, gcu, edr, gdr, hcu, hdr, hdec, hded, hsp, hC1, hC2, hcu8, hrb8, hcg8, hmn8, hE, hZ, hn8, hXA, hV8, hSG, ece8, gce8, hcen8, hhdr8, hknn8, -⟩ := hXI
    have hN3 := RB_n3 hrb8
    have hE13 : ∀ h : Nat, h < 24 → 0 ≤ e8 13 h ∧ e8 13 h ≤ 100 := fun k hk => by
      obtain ⟨s, h1, h2, h3⟩ := hcu8.1.2.2.1
      exact ⟨(h3 k hk).1, (h3 k hk).2.1⟩
    have hXW := hXA.1
    have hXN := hXA.2
    have hE0 : e8 0 3 = d8 0 3 ∧ e8 0 0 = d8 0 0 := by
      have h := hE 0 (by decide)
      exact ⟨congrFun h 3, congrFun h 0⟩
    have u4481 := CU_k hcu8
    have h4482 : CY T H cu (d8 0 3) g8 (H cu 17) := ⟨hcg8, rfl⟩
    have h4483 : RY T H m (d8 0 3) g8 (H m 32) := ⟨hmn8, rfl⟩
    obtain ⟨t9, ht9⟩ : ∃ t : Int, t = H x 9 := ⟨_, rfl⟩
    obtain ⟨y9, hy9⟩ : ∃ y : Int, y = 1 := ⟨_, rfl⟩
    obtain ⟨r4484, q4485, g4486⟩ := hW.ref gx (t' := 6) (n := 13) (j := 2) (p := 0) (q := 0) rfl (by decide) rfl
    refine wl_of hX hb cL_1131 (xc_V (pc' := 1134) (r := x) (as := [vI (H 0 ((i + 1).toNat)), vI 1]) (st := []) (lm_11_143) rfl rfl (Nat.le_of_ble_eq_true rfl) hW gx sh_1 (by decide) rfl (by decide) (u_119 (e := e8) (d := d8) (n := n8) hW gx ⟨by omega, by omega⟩ ⟨by decide, by decide⟩ ecu gcu q4485 g4486 ece8 gce8 (by assumption) (by assumption) (by omega) (by omega) (by omega) (by omega) hcu8 hcen8 hhdr8) (fun R4487 T4488 H4489 p4490 => ?_))
    obtain ⟨e4491, w4493, f4494, z4495, e4492, b4496, p4497⟩ := p4490
    subst e4491
    subst e4492
    show WL _ _ _ _ 1134 [(4, vI i), (3, .ref o), (2, .ref m), (1, .ref x), (0, .ref 0)] [vI z4495] _ H4489
    refine wl_of hX hb cL_1134 (rw_pop (pc' := 1135) rfl rfl ?_)
    refine wl_of hX hb cL_1135 (rw_aload_n (pc' := 1136) (v := .ref m) rfl rfl rfl ?_)
    refine wl_of hX hb cL_1136 (rw_aload_n (pc' := 1137) (v := .ref 0) rfl rfl rfl ?_)
    refine wl_of hX hb cL_1137 (rw_iload (pc' := 1139) (z := i) rfl rfl ?_)
    refine wl_of hX hb cL_1139 (rw_iconst (pc' := 1140) rfl ?_)
    refine wl_of hX hb cL_1140 (rw_iadd (pc' := 1141) rfl ?_)
    have k4501 : H4489 0 ((i + 1).toNat) = H 0 ((i + 1).toNat) := (f4494 0 ((i + 1).toNat) _ g0 (wmem_s rfl))
    refine wl_of hX hb cL_1141 (xa_I (so := 0) (pc' := 1142) (a := 0) w4493 g0 (wsh_s _) (by omega) (wty_s _ _) (by omega) (by omega) rfl (fun b4499 b4500 => ?_))
    refine wl_of hX hb cL_1142 (rw_aload_n (pc' := 1143) (v := .ref 0) rfl rfl rfl ?_)
    refine wl_of hX hb cL_1143 (rw_iload (pc' := 1145) (z := i) rfl rfl ?_)
    refine wl_of hX hb cL_1145 (rw_iconst (pc' := 1146) rfl ?_)
    refine wl_of hX hb cL_1146 (rw_iadd (pc' := 1147) rfl ?_)
    have k4504 : H4489 0 ((i + 2).toNat) = H 0 ((i + 2).toNat) := (f4494 0 ((i + 2).toNat) _ g0 (wmem_s rfl))
    refine wl_of hX hb cL_1147 (xa_I (so := 0) (pc' := 1148) (a := 0) w4493 g0 (wsh_s _) (by omega) (wty_s _ _) (by omega) (by omega) rfl (fun b4502 b4503 => ?_))
    refine wl_of hX hb cL_1148 (rw_if_eq (p1 := 1155) (p2 := 1151) (by decide) rfl ⟨by omega, by omega⟩ (fun c4505 => ?_) (fun c4505 => ?_))
    · refine wl_of hX hb cL_1155 (rw_iconst (pc' := 1156) rfl ?_)
      have k4506 : wKI H4489 m = wKI H m := (wKI_fr hW gm f4494 rfl)
      have k4507 : H4489 x 9 = H x 9 := (f4494 x 9 _ gx rfl)
      have k4508 : H4489 m 6 = H m 6 := (f4494 m 6 _ gm rfl)
      have k4509 : H4489 x 11 = H x 11 := (f4494 x 11 _ gx rfl)
      have k4510 : H4489 m 13 = H m 13 := (f4494 m 13 _ gm rfl)
      have k4511 : H4489 x 8 = H x 8 := (f4494 x 8 _ gx rfl)
      have k4512 : H4489 m 3 = H m 3 := (f4494 m 3 _ gm rfl)
      rw [show H4489 0 ((i + 1).toNat) = H 0 ((i + 1).toNat) by omega]
      have h4513 : RB T H4489 m e8 d8 := (RB_fr hW gm f4494 rfl hrb8)
      have h4514 : KNN T H4489 m e8 d8 := (KNN_fr hW gm f4494 rfl hknn8)
      refine wl_of hX hb cL_1156 (xc_V (pc' := 1159) (r := m) (as := [vI (H 0 ((i + 1).toNat)), vI 0]) (st := []) (lm_11_146) rfl rfl (Nat.le_of_ble_eq_true rfl) w4493 gm sh_42 (by decide) rfl (by decide) (u_265 (e := e8) (d := d8) w4493 gm ⟨by omega, by omega⟩ ⟨by decide, by decide⟩ (by omega) (by assumption) (by assumption) (by assumption) (by assumption) h4513 h4514) (fun R4515 T4516 H4517 p4518 => ?_))
      obtain ⟨e4519, w4521, f4522, z4523, e4520, b4524, p4525⟩ := p4518
      subst e4519
      subst e4520
      obtain ⟨a4526, a4527⟩ := p4525
      show WL _ _ _ _ 1159 [(4, vI i), (3, .ref o), (2, .ref m), (1, .ref x), (0, .ref 0)] [vI z4523] _ H4517
      refine wl_of hX hb cL_1159 (rw_pop (pc' := 1160) rfl rfl ?_)
      refine wl_of hX hb cL_1160 (rw_goto (p1 := 1654) (by decide) ?_)
      have k4528 : H4517 x 9 = H4489 x 9 := (f4522 x 9 _ gx rfl)
      have k4529 : H4517 m 6 = H4489 m 6 := (f4522 m 6 _ gm rfl)
      have k4530 : H4517 x 11 = H4489 x 11 := (f4522 x 11 _ gx rfl)
      have k4531 : H4517 m 13 = H4489 m 13 := (f4522 m 13 _ gm rfl)
      have k4532 : H4517 x 8 = H4489 x 8 := (f4522 x 8 _ gx rfl)
      have k4533 : H4517 m 3 = H4489 m 3 := (f4522 m 3 _ gm rfl)
      have k4534 : H4517 x 0 = H x 0 := ((f4522 x 0 _ gx rfl).trans (f4494 x 0 _ gx rfl))
      have q4535 : H4517 x 0 = (tc : Int) := k4534.trans e0
      have k4536 : H4517 m 5 = H m 5 := ((f4522 m 5 _ gm rfl).trans (f4494 m 5 _ gm rfl))
      have q4537 : H4517 m 5 = (tm : Int) := k4536.trans em
      have k4538 : H4517 x 6 = H x 6 := ((f4522 x 6 _ gx rfl).trans (f4494 x 6 _ gx rfl))
      have q4539 : H4517 x 6 = (cu : Int) := k4538.trans ecu
      have k4540 : H4517 x 7 = H x 7 := ((f4522 x 7 _ gx rfl).trans (f4494 x 7 _ gx rfl))
      have q4541 : H4517 x 7 = (dr : Int) := k4540.trans edr
      have h4542 : CEN T H4517 ce8 e8 d8 := (CEN_fr w4493 gce8 f4522 rfl p4497)
      have h4543 : TP T H4517 tc B := (TP_fr w4493 gtc f4522 rfl (TP_fr hW gtc f4494 rfl htc))
      have h4544 : TM T H4517 tm B := (TM_fr w4493 gtm f4522 rfl (TM_fr hW gtm f4494 rfl htm))
      have h4545 : DD T H4517 cu  := (DD_fr w4493 gcu f4522 rfl (DD_fr hW gcu f4494 rfl hcu))
      have h4546 : DD T H4517 dr  := (DD_fr w4493 gdr f4522 rfl (DD_fr hW gdr f4494 rfl hdr))
      have h4547 : DE T H4517 cu  := (DE_fr w4493 gcu f4522 rfl (DE_fr hW gcu f4494 rfl hdec))
      have h4548 : DE T H4517 dr  := (DE_fr w4493 gdr f4522 rfl (DE_fr hW gdr f4494 rfl hded))
      have h4549 : SP T H4517 x C8 := (SP_fr w4493 gx f4522 rfl (SP_fr hW gx f4494 rfl hsp))
      have h4550 : CU T H4517 cu e8 d8 n8 := (CU_fr w4493 gcu f4522 rfl (CU_fr hW gcu f4494 rfl hcu8))
      have h4551 : CY T H4517 cu (d8 0 3) g8 (H cu 17) := (CY_fr w4493 gcu f4522 rfl (CY_fr hW gcu f4494 rfl h4482))
      have k4552 : H4517 x 3 = H x 3 := ((f4522 x 3 _ gx rfl).trans (f4494 x 3 _ gx rfl))
      have q4553 : H4517 x 3 = (ce8 : Int) := k4552.trans ece8
      have h4554 : HDR T H4517 ce8  := (HDR_fr w4493 gce8 f4522 rfl (HDR_fr hW gce8 f4494 rfl hhdr8))
      have h4555 : RY T H4517 m (d8 0 3) g8 (H m 32) := (RY_fr w4493 gm f4522 rfl (RY_fr hW gm f4494 rfl h4483))
      have h4556 : RB T H4517 m e8 d8 := (RB_fr w4493 gm f4522 rfl h4513)
      exact WL.loc hX (by simp) (next T H4517 ⟨⟨w4521, g0, gx, gm, go, by omega, by omega⟩, ⟨_, tc, tm, cu, dr, _, _, _, _, _, ce8, q4535, gtc, h4543, q4537, gtm, h4544, q4539, gcu, q4541, gdr, h4545, h4546, h4547, h4548, h4549, hC1, hC2, h4550, h4556, (h4551).1, (h4555).1, hE, hZ, (by omega), (by assumption), (by omega), (by first | assumption | exact SG_0), q4553, gce8, h4542, h4554, a4527, gm⟩, by omega, by omega⟩ (by omega) (by omega))
    · refine wl_of hX hb cL_1151 (rw_iconst (pc' := 1152) rfl ?_)
      refine wl_of hX hb cL_1152 (rw_goto (p1 := 1156) (by decide) ?_)
      have k4557 : wKI H4489 m = wKI H m := (wKI_fr hW gm f4494 rfl)
      have k4558 : H4489 x 9 = H x 9 := (f4494 x 9 _ gx rfl)
      have k4559 : H4489 m 6 = H m 6 := (f4494 m 6 _ gm rfl)
      have k4560 : H4489 x 11 = H x 11 := (f4494 x 11 _ gx rfl)
      have k4561 : H4489 m 13 = H m 13 := (f4494 m 13 _ gm rfl)
      have k4562 : H4489 x 8 = H x 8 := (f4494 x 8 _ gx rfl)
      have k4563 : H4489 m 3 = H m 3 := (f4494 m 3 _ gm rfl)
      rw [show H4489 0 ((i + 1).toNat) = H 0 ((i + 1).toNat) by omega]
      have h4564 : RB T H4489 m e8 d8 := (RB_fr hW gm f4494 rfl hrb8)
      have h4565 : KNN T H4489 m e8 d8 := (KNN_fr hW gm f4494 rfl hknn8)
      refine wl_of hX hb cL_1156 (xc_V (pc' := 1159) (r := m) (as := [vI (H 0 ((i + 1).toNat)), vI 1]) (st := []) (lm_11_146) rfl rfl (Nat.le_of_ble_eq_true rfl) w4493 gm sh_42 (by decide) rfl (by decide) (u_265 (e := e8) (d := d8) w4493 gm ⟨by omega, by omega⟩ ⟨by decide, by decide⟩ (by omega) (by assumption) (by assumption) (by assumption) (by assumption) h4564 h4565) (fun R4566 T4567 H4568 p4569 => ?_))
      obtain ⟨e4570, w4572, f4573, z4574, e4571, b4575, p4576⟩ := p4569
      subst e4570
      subst e4571
      obtain ⟨a4577, a4578⟩ := p4576
      show WL _ _ _ _ 1159 [(4, vI i), (3, .ref o), (2, .ref m), (1, .ref x), (0, .ref 0)] [vI z4574] _ H4568
      refine wl_of hX hb cL_1159 (rw_pop (pc' := 1160) rfl rfl ?_)
      refine wl_of hX hb cL_1160 (rw_goto (p1 := 1654) (by decide) ?_)
      have k4579 : H4568 x 9 = H4489 x 9 := (f4573 x 9 _ gx rfl)
      have k4580 : H4568 m 6 = H4489 m 6 := (f4573 m 6 _ gm rfl)
      have k4581 : H4568 x 11 = H4489 x 11 := (f4573 x 11 _ gx rfl)
      have k4582 : H4568 m 13 = H4489 m 13 := (f4573 m 13 _ gm rfl)
      have k4583 : H4568 x 8 = H4489 x 8 := (f4573 x 8 _ gx rfl)
      have k4584 : H4568 m 3 = H4489 m 3 := (f4573 m 3 _ gm rfl)
      have k4585 : H4568 x 0 = H x 0 := ((f4573 x 0 _ gx rfl).trans (f4494 x 0 _ gx rfl))
      have q4586 : H4568 x 0 = (tc : Int) := k4585.trans e0
      have k4587 : H4568 m 5 = H m 5 := ((f4573 m 5 _ gm rfl).trans (f4494 m 5 _ gm rfl))
      have q4588 : H4568 m 5 = (tm : Int) := k4587.trans em
      have k4589 : H4568 x 6 = H x 6 := ((f4573 x 6 _ gx rfl).trans (f4494 x 6 _ gx rfl))
      have q4590 : H4568 x 6 = (cu : Int) := k4589.trans ecu
      have k4591 : H4568 x 7 = H x 7 := ((f4573 x 7 _ gx rfl).trans (f4494 x 7 _ gx rfl))
      have q4592 : H4568 x 7 = (dr : Int) := k4591.trans edr
      have h4593 : CEN T H4568 ce8 e8 d8 := (CEN_fr w4493 gce8 f4573 rfl p4497)
      have h4594 : TP T H4568 tc B := (TP_fr w4493 gtc f4573 rfl (TP_fr hW gtc f4494 rfl htc))
      have h4595 : TM T H4568 tm B := (TM_fr w4493 gtm f4573 rfl (TM_fr hW gtm f4494 rfl htm))
      have h4596 : DD T H4568 cu  := (DD_fr w4493 gcu f4573 rfl (DD_fr hW gcu f4494 rfl hcu))
      have h4597 : DD T H4568 dr  := (DD_fr w4493 gdr f4573 rfl (DD_fr hW gdr f4494 rfl hdr))
      have h4598 : DE T H4568 cu  := (DE_fr w4493 gcu f4573 rfl (DE_fr hW gcu f4494 rfl hdec))
      have h4599 : DE T H4568 dr  := (DE_fr w4493 gdr f4573 rfl (DE_fr hW gdr f4494 rfl hded))
      have h4600 : SP T H4568 x C8 := (SP_fr w4493 gx f4573 rfl (SP_fr hW gx f4494 rfl hsp))
      have h4601 : CU T H4568 cu e8 d8 n8 := (CU_fr w4493 gcu f4573 rfl (CU_fr hW gcu f4494 rfl hcu8))
      have h4602 : CY T H4568 cu (d8 0 3) g8 (H cu 17) := (CY_fr w4493 gcu f4573 rfl (CY_fr hW gcu f4494 rfl h4482))
      have k4603 : H4568 x 3 = H x 3 := ((f4573 x 3 _ gx rfl).trans (f4494 x 3 _ gx rfl))
      have q4604 : H4568 x 3 = (ce8 : Int) := k4603.trans ece8
      have h4605 : HDR T H4568 ce8  := (HDR_fr w4493 gce8 f4573 rfl (HDR_fr hW gce8 f4494 rfl hhdr8))
      have h4606 : RY T H4568 m (d8 0 3) g8 (H m 32) := (RY_fr w4493 gm f4573 rfl (RY_fr hW gm f4494 rfl h4483))
      have h4607 : RB T H4568 m e8 d8 := (RB_fr w4493 gm f4573 rfl h4564)
      exact WL.loc hX (by simp) (next T H4568 ⟨⟨w4572, g0, gx, gm, go, by omega, by omega⟩, ⟨_, tc, tm, cu, dr, _, _, _, _, _, ce8, q4586, gtc, h4594, q4588, gtm, h4595, q4590, gcu, q4592, gdr, h4596, h4597, h4598, h4599, h4600, hC1, hC2, h4601, h4607, (h4602).1, (h4606).1, hE, hZ, (by omega), (by assumption), (by omega), (by first | assumption | exact SG_0), q4604, gce8, h4593, h4605, a4578, gm⟩, by omega, by omega⟩ (by omega) (by omega))
set_option maxHeartbeats 4000000 in
theorem wl_c30 {kt : Nat → Option mc_E} {CB SB : Nat} {X : mc_S → Prop} {T : wq_T} {H : wq_H} {Len x m o : Nat} {i : Int} (hX : wlX kt CB SB X) (hb : T.2.1 ≤ CB ∧ T.2.2.1 ≤ SB) (hI : wlJ Len x m o T H) (hL : Len ≤ 3072) (hi : 0 ≤ i ∧ i + 6 ≤ Len) (hb2 : T.2.1 + 20 ≤ CB ∧ T.2.2.1 + 500 ≤ SB)  (next : ∀ T' H', wlJ Len x m o T' H' → T'.2.1 ≤ T.2.1 + 20 → T'.2.2.1 ≤ T.2.2.1 + 500 → WL kt CB SB X 1654 (wlL i x m o) [] T' H') : WL kt CB SB X 1163 (wlL i x m o) [] T H := by
  obtain ⟨⟨hW, g0, gx, gm, go, hK, hr⟩, hXI, hY1, hY2⟩ := hI
  refine wl_of hX hb cL_1163 (rw_aload_n (pc' := 1164) (v := .ref x) rfl rfl rfl ?_)
  obtain ⟨B, tc, tm, cu, dr, C8, e8, d8, n8, g8, ce8, e0, gtc, htc, em, gtm, htm, ecu, gcu, edr, gdr, hcu, hdr, hdec, hded, hsp, hC1, hC2, hcu8, hrb8, hcg8, hmn8, hE, hZ, hn8, hXA, hV8, hSG, ece8, gce8, hcen8, hhdr8, hknn8, -⟩ := hXI
  have hN3 := RB_n3 hrb8
  have hE13 : ∀ h : Nat, h < 24 → 0 ≤ e8 13 h ∧ e8 13 h ≤ 100 := fun k hk => by
    obtain ⟨s, h1, h2, h3⟩ := hcu8.1.2.2.1
    exact ⟨(h3 k hk).1, (h3 k hk).2.1⟩
  have hXW := hXA.1
  have hXN := hXA.2
  have hE0 : e8 0 3 = d8 0 3 ∧ e8 0 0 = d8 0 0 := by
    have h := hE 0 (by decide)
    exact ⟨congrFun h 3, congrFun h 0⟩
  have u4608 := CU_k hcu8
  have h4609 : CY T H cu (d8 0 3) g8 (H cu 17) := ⟨hcg8, rfl⟩
  have h4610 : RY T H m (d8 0 3) g8 (H m 32) := ⟨hmn8, rfl⟩
  obtain ⟨t9, ht9⟩ : ∃ t : Int, t = H x 9 := ⟨_, rfl⟩
  obtain ⟨r4611, q4612, g4613⟩ := hW.ref gx (t' := 6) (n := 13) (j := 2) (p := 0) (q := 0) rfl (by decide) rfl
  refine wl_of hX hb cL_1164 (xc_V (pc' := 1167) (r := x) (as := []) (st := []) (lm_11_147) rfl rfl (Nat.le_of_ble_eq_true rfl) hW gx sh_1 (by decide) rfl (by decide) (u_120 (e := e8) (d := d8) (n := n8) hW gx ecu gcu q4612 g4613 ece8 gce8 (by assumption) (by assumption) (by omega) (by omega) (by omega) (by omega) hcu8 hcen8 hhdr8) (fun R4614 T4615 H4616 p4617 => ?_))
  obtain ⟨e4618, w4620, f4621, z4622, e4619, b4623, p4624⟩ := p4617
  subst e4618
  subst e4619
  show WL _ _ _ _ 1167 [(4, vI i), (3, .ref o), (2, .ref m), (1, .ref x), (0, .ref 0)] [vI z4622] _ H4616
  refine wl_of hX hb cL_1167 (rw_pop (pc' := 1168) rfl rfl ?_)
  refine wl_of hX hb cL_1168 (rw_aload_n (pc' := 1169) (v := .ref m) rfl rfl rfl ?_)
  have k4626 : wKI H4616 m = wKI H m := (wKI_fr hW gm f4621 rfl)
  have k4627 : H4616 x 9 = H x 9 := (f4621 x 9 _ gx rfl)
  have k4628 : H4616 m 6 = H m 6 := (f4621 m 6 _ gm rfl)
  have k4629 : H4616 x 11 = H x 11 := (f4621 x 11 _ gx rfl)
  have k4630 : H4616 m 13 = H m 13 := (f4621 m 13 _ gm rfl)
  have k4631 : H4616 x 8 = H x 8 := (f4621 x 8 _ gx rfl)
  have k4632 : H4616 m 3 = H m 3 := (f4621 m 3 _ gm rfl)
  have h4633 : RB T H4616 m e8 d8 := (RB_fr hW gm f4621 rfl hrb8)
  have h4634 : KNN T H4616 m e8 d8 := (KNN_fr hW gm f4621 rfl hknn8)
  refine wl_of hX hb cL_1169 (xc_V (pc' := 1172) (r := m) (as := []) (st := []) (lm_11_150) rfl rfl (Nat.le_of_ble_eq_true rfl) w4620 gm sh_42 (by decide) rfl (by decide) (u_266 (e := e8) (d := d8) w4620 gm (by omega) (by assumption) (by assumption) (by assumption) (by assumption) h4633 h4634) (fun R4635 T4636 H4637 p4638 => ?_))
  obtain ⟨e4639, w4641, f4642, z4643, e4640, b4644, p4645⟩ := p4638
  subst e4639
  subst e4640
  obtain ⟨a4646, a4647⟩ := p4645
  show WL _ _ _ _ 1172 [(4, vI i), (3, .ref o), (2, .ref m), (1, .ref x), (0, .ref 0)] [vI z4643] _ H4637
  refine wl_of hX hb cL_1172 (rw_pop (pc' := 1173) rfl rfl ?_)
  refine wl_of hX hb cL_1173 (rw_goto (p1 := 1654) (by decide) ?_)
  have k4648 : H4637 x 9 = H4616 x 9 := (f4642 x 9 _ gx rfl)
  have k4649 : H4637 m 6 = H4616 m 6 := (f4642 m 6 _ gm rfl)
  have k4650 : H4637 x 11 = H4616 x 11 := (f4642 x 11 _ gx rfl)
  have k4651 : H4637 m 13 = H4616 m 13 := (f4642 m 13 _ gm rfl)
  have k4652 : H4637 x 8 = H4616 x 8 := (f4642 x 8 _ gx rfl)
  have k4653 : H4637 m 3 = H4616 m 3 := (f4642 m 3 _ gm rfl)
  have k4654 : H4637 x 0 = H x 0 := ((f4642 x 0 _ gx rfl).trans (f4621 x 0 _ gx rfl))
  have q4655 : H4637 x 0 = (tc : Int) := k4654.trans e0
  have k4656 : H4637 m 5 = H m 5 := ((f4642 m 5 _ gm rfl).trans (f4621 m 5 _ gm rfl))
  have q4657 : H4637 m 5 = (tm : Int) := k4656.trans em
  have k4658 : H4637 x 6 = H x 6 := ((f4642 x 6 _ gx rfl).trans (f4621 x 6 _ gx rfl))
  have q4659 : H4637 x 6 = (cu : Int) := k4658.trans ecu
  have k4660 : H4637 x 7 = H x 7 := ((f4642 x 7 _ gx rfl).trans (f4621 x 7 _ gx rfl))
  have q4661 : H4637 x 7 = (dr : Int) := k4660.trans edr
  have h4662 : CEN T H4637 ce8 e8 d8 := (CEN_fr w4620 gce8 f4642 rfl p4624)
  have h4663 : TP T H4637 tc B := (TP_fr w4620 gtc f4642 rfl (TP_fr hW gtc f4621 rfl htc))
  have h4664 : TM T H4637 tm B := (TM_fr w4620 gtm f4642 rfl (TM_fr hW gtm f4621 rfl htm))
  have h4665 : DD T H4637 cu  := (DD_fr w4620 gcu f4642 rfl (DD_fr hW gcu f4621 rfl hcu))
  have h4666 : DD T H4637 dr  := (DD_fr w4620 gdr f4642 rfl (DD_fr hW gdr f4621 rfl hdr))
  have h4667 : DE T H4637 cu  := (DE_fr w4620 gcu f4642 rfl (DE_fr hW gcu f4621 rfl hdec))
  have h4668 : DE T H4637 dr  := (DE_fr w4620 gdr f4642 rfl (DE_fr hW gdr f4621 rfl hded))
  have h4669 : SP T H4637 x C8 := (SP_fr w4620 gx f4642 rfl (SP_fr hW gx f4621 rfl hsp))
  have h4670 : CU T H4637 cu e8 d8 n8 := (CU_fr w4620 gcu f4642 rfl (CU_fr hW gcu f4621 rfl hcu8))
  have h4671 : CY T H4637 cu (d8 0 3) g8 (H cu 17) := (CY_fr w4620 gcu f4642 rfl (CY_fr hW gcu f4621 rfl h4609))
  have k4672 : H4637 x 3 = H x 3 := ((f4642 x 3 _ gx rfl).trans (f4621 x 3 _ gx rfl))
  have q4673 : H4637 x 3 = (ce8 : Int) := k4672.trans ece8
  have h4674 : HDR T H4637 ce8  := (HDR_fr w4620 gce8 f4642 rfl (HDR_fr hW gce8 f4621 rfl hhdr8))
  have h4675 : RY T H4637 m (d8 0 3) g8 (H m 32) := (RY_fr w4620 gm f4642 rfl (RY_fr hW gm f4621 rfl h4610))
  have h4676 : RB T H4637 m e8 d8 := (RB_fr w4620 gm f4642 rfl h4633)
  exact WL.loc hX (by simp) (next T H4637 ⟨⟨w4641, g0, gx, gm, go, by omega, by omega⟩, ⟨_, tc, tm, cu, dr, _, _, _, _, _, ce8, q4655, gtc, h4663, q4657, gtm, h4664, q4659, gcu, q4661, gdr, h4665, h4666, h4667, h4668, h4669, hC1, hC2, h4670, h4676, (h4671).1, (h4675).1, hE, hZ, (by omega), (by assumption), (by omega), (by first | assumption | exact SG_0), q4673, gce8, h4662, h4674, a4647, gm⟩, by omega, by omega⟩ (by omega) (by omega))
set_option maxHeartbeats 4000000 in
theorem wl_c31 {kt : Nat → Option mc_E} {CB SB : Nat} {X : mc_S → Prop} {T : wq_T} {H : wq_H} {Len x m o : Nat} {i : Int} (hX : wlX kt CB SB X) (hb : T.2.1 ≤ CB ∧ T.2.2.1 ≤ SB) (hI : wlJ Len x m o T H) (hL : Len ≤ 3072) (hi : 0 ≤ i ∧ i + 6 ≤ Len) (hb2 : T.2.1 + 20 ≤ CB ∧ T.2.2.1 + 500 ≤ SB)  (next : ∀ T' H', wlJ Len x m o T' H' → T'.2.1 ≤ T.2.1 + 20 → T'.2.2.1 ≤ T.2.2.1 + 500 → WL kt CB SB X 1654 (wlL i x m o) [] T' H') : WL kt CB SB X 1176 (wlL i x m o) [] T H := by
  obtain ⟨⟨hW, g0, gx, gm, go, hK, hr⟩, hXI, hY1, hY2⟩ := hI
  refine wl_of hX hb cL_1176 (rw_aload_n (pc' := 1177) (v := .ref x) rfl rfl rfl ?_)
  refine wl_of hX hb cL_1177 (rw_aload_n (pc' := 1178) (v := .ref 0) rfl rfl rfl ?_)
  refine wl_of hX hb cL_1178 (rw_iload (pc' := 1180) (z := i) rfl rfl ?_)
  refine wl_of hX hb cL_1180 (rw_iconst (pc' := 1181) rfl ?_)
  refine wl_of hX hb cL_1181 (rw_iadd (pc' := 1182) rfl ?_)
  refine wl_of hX hb cL_1182 (xa_I (so := 0) (pc' := 1183) (a := 0) hW g0 (wsh_s _) (by omega) (wty_s _ _) (by omega) (by omega) rfl (fun b4677 b4678 => ?_))
  obtain ⟨B, tc, tm, cu, dr, C8, e8, d8, n8, g8, ce8, e0, gtc, htc, em, gtm, htm, ecu, gcu, edr, gdr, hcu, hdr, hdec, hded, hsp, hC1, hC2, hcu8, hrb8, hcg8, hmn8, hE, hZ, hn8, hXA, hV8, hSG, ece8, gce8, hcen8, hhdr8, hknn8, -⟩ := hXI
  have hN3 := RB_n3 hrb8
  have hE13 : ∀ h : Nat, h < 24 → 0 ≤ e8 13 h ∧ e8 13 h ≤ 100 := fun k hk => by
    obtain ⟨s, h1, h2, h3⟩ := hcu8.1.2.2.1
    exact ⟨(h3 k hk).1, (h3 k hk).2.1⟩
  have hXW := hXA.1
  have hXN := hXA.2
  have hE0 : e8 0 3 = d8 0 3 ∧ e8 0 0 = d8 0 0 := by
    have h := hE 0 (by decide)
    exact ⟨congrFun h 3, congrFun h 0⟩
  have u4679 := CU_k hcu8
  have h4680 : CY T H cu (d8 0 3) g8 (H cu 17) := ⟨hcg8, rfl⟩
  have h4681 : RY T H m (d8 0 3) g8 (H m 32) := ⟨hmn8, rfl⟩
  obtain ⟨t9, ht9⟩ : ∃ t : Int, t = H x 9 := ⟨_, rfl⟩
  obtain ⟨y9, hy9⟩ : ∃ y : Int, y = H 0 ((i + 1).toNat) := ⟨_, rfl⟩
  obtain ⟨r4682, q4683, g4684⟩ := hW.ref gx (t' := 6) (n := 13) (j := 2) (p := 0) (q := 0) rfl (by decide) rfl
  refine wl_of hX hb cL_1183 (xc_V (pc' := 1186) (r := x) (as := [vI (H 0 ((i + 1).toNat))]) (st := []) (lm_11_151) rfl rfl (Nat.le_of_ble_eq_true rfl) hW gx sh_1 (by decide) rfl (by decide) (u_130 (e := e8) (d := d8) (n := n8) hW gx ⟨by omega, by omega⟩ ecu gcu q4683 g4684 ece8 gce8 (by assumption) (by assumption) (by omega) (by omega) (by omega) (by omega) hcu8 hcen8 hhdr8) (fun R4685 T4686 H4687 p4688 => ?_))
  obtain ⟨e4689, w4691, f4692, z4693, e4690, b4694, p4695⟩ := p4688
  subst e4689
  subst e4690
  show WL _ _ _ _ 1186 [(4, vI i), (3, .ref o), (2, .ref m), (1, .ref x), (0, .ref 0)] [vI z4693] _ H4687
  refine wl_of hX hb cL_1186 (rw_pop (pc' := 1187) rfl rfl ?_)
  refine wl_of hX hb cL_1187 (rw_aload_n (pc' := 1188) (v := .ref m) rfl rfl rfl ?_)
  refine wl_of hX hb cL_1188 (rw_aload_n (pc' := 1189) (v := .ref 0) rfl rfl rfl ?_)
  refine wl_of hX hb cL_1189 (rw_iload (pc' := 1191) (z := i) rfl rfl ?_)
  refine wl_of hX hb cL_1191 (rw_iconst (pc' := 1192) rfl ?_)
  refine wl_of hX hb cL_1192 (rw_iadd (pc' := 1193) rfl ?_)
  have k4699 : H4687 0 ((i + 1).toNat) = H 0 ((i + 1).toNat) := (f4692 0 ((i + 1).toNat) _ g0 (wmem_s rfl))
  refine wl_of hX hb cL_1193 (xa_I (so := 0) (pc' := 1194) (a := 0) w4691 g0 (wsh_s _) (by omega) (wty_s _ _) (by omega) (by omega) rfl (fun b4697 b4698 => ?_))
  have k4700 : wKI H4687 m = wKI H m := (wKI_fr hW gm f4692 rfl)
  have k4701 : H4687 x 9 = H x 9 := (f4692 x 9 _ gx rfl)
  have k4702 : H4687 m 6 = H m 6 := (f4692 m 6 _ gm rfl)
  have k4703 : H4687 x 11 = H x 11 := (f4692 x 11 _ gx rfl)
  have k4704 : H4687 m 13 = H m 13 := (f4692 m 13 _ gm rfl)
  have k4705 : H4687 x 8 = H x 8 := (f4692 x 8 _ gx rfl)
  have k4706 : H4687 m 3 = H m 3 := (f4692 m 3 _ gm rfl)
  rw [show H4687 0 ((i + 1).toNat) = H 0 ((i + 1).toNat) by omega]
  have h4707 : RB T H4687 m e8 d8 := (RB_fr hW gm f4692 rfl hrb8)
  have h4708 : KNN T H4687 m e8 d8 := (KNN_fr hW gm f4692 rfl hknn8)
  refine wl_of hX hb cL_1194 (xc_V (pc' := 1197) (r := m) (as := [vI (H 0 ((i + 1).toNat))]) (st := []) (lm_11_154) rfl rfl (Nat.le_of_ble_eq_true rfl) w4691 gm sh_42 (by decide) rfl (by decide) (u_271 (e := e8) (d := d8) w4691 gm ⟨by omega, by omega⟩ (by omega) (by assumption) (by assumption) (by assumption) (by assumption) h4707 h4708) (fun R4709 T4710 H4711 p4712 => ?_))
  obtain ⟨e4713, w4715, f4716, z4717, e4714, b4718, p4719⟩ := p4712
  subst e4713
  subst e4714
  obtain ⟨a4720, a4721⟩ := p4719
  show WL _ _ _ _ 1197 [(4, vI i), (3, .ref o), (2, .ref m), (1, .ref x), (0, .ref 0)] [vI z4717] _ H4711
  refine wl_of hX hb cL_1197 (rw_pop (pc' := 1198) rfl rfl ?_)
  refine wl_of hX hb cL_1198 (rw_goto (p1 := 1654) (by decide) ?_)
  have k4722 : H4711 x 9 = H4687 x 9 := (f4716 x 9 _ gx rfl)
  have k4723 : H4711 m 6 = H4687 m 6 := (f4716 m 6 _ gm rfl)
  have k4724 : H4711 x 11 = H4687 x 11 := (f4716 x 11 _ gx rfl)
  have k4725 : H4711 m 13 = H4687 m 13 := (f4716 m 13 _ gm rfl)
  have k4726 : H4711 x 8 = H4687 x 8 := (f4716 x 8 _ gx rfl)
  have k4727 : H4711 m 3 = H4687 m 3 := (f4716 m 3 _ gm rfl)
  have k4728 : H4711 x 0 = H x 0 := ((f4716 x 0 _ gx rfl).trans (f4692 x 0 _ gx rfl))
  have q4729 : H4711 x 0 = (tc : Int) := k4728.trans e0
  have k4730 : H4711 m 5 = H m 5 := ((f4716 m 5 _ gm rfl).trans (f4692 m 5 _ gm rfl))
  have q4731 : H4711 m 5 = (tm : Int) := k4730.trans em
  have k4732 : H4711 x 6 = H x 6 := ((f4716 x 6 _ gx rfl).trans (f4692 x 6 _ gx rfl))
  have q4733 : H4711 x 6 = (cu : Int) := k4732.trans ecu
  have k4734 : H4711 x 7 = H x 7 := ((f4716 x 7 _ gx rfl).trans (f4692 x 7 _ gx rfl))
  have q4735 : H4711 x 7 = (dr : Int) := k4734.trans edr
  have h4736 : CEN T H4711 ce8 e8 d8 := (CEN_fr w4691 gce8 f4716 rfl p4695)
  have h4737 : TP T H4711 tc B := (TP_fr w4691 gtc f4716 rfl (TP_fr hW gtc f4692 rfl htc))
  have h4738 : TM T H4711 tm B := (TM_fr w4691 gtm f4716 rfl (TM_fr hW gtm f4692 rfl htm))
  have h4739 : DD T H4711 cu  := (DD_fr w4691 gcu f4716 rfl (DD_fr hW gcu f4692 rfl hcu))
  have h4740 : DD T H4711 dr  := (DD_fr w4691 gdr f4716 rfl (DD_fr hW gdr f4692 rfl hdr))
  have h4741 : DE T H4711 cu  := (DE_fr w4691 gcu f4716 rfl (DE_fr hW gcu f4692 rfl hdec))
  have h4742 : DE T H4711 dr  := (DE_fr w4691 gdr f4716 rfl (DE_fr hW gdr f4692 rfl hded))
  have h4743 : SP T H4711 x C8 := (SP_fr w4691 gx f4716 rfl (SP_fr hW gx f4692 rfl hsp))
  have h4744 : CU T H4711 cu e8 d8 n8 := (CU_fr w4691 gcu f4716 rfl (CU_fr hW gcu f4692 rfl hcu8))
  have h4745 : CY T H4711 cu (d8 0 3) g8 (H cu 17) := (CY_fr w4691 gcu f4716 rfl (CY_fr hW gcu f4692 rfl h4680))
  have k4746 : H4711 x 3 = H x 3 := ((f4716 x 3 _ gx rfl).trans (f4692 x 3 _ gx rfl))
  have q4747 : H4711 x 3 = (ce8 : Int) := k4746.trans ece8
  have h4748 : HDR T H4711 ce8  := (HDR_fr w4691 gce8 f4716 rfl (HDR_fr hW gce8 f4692 rfl hhdr8))
  have h4749 : RY T H4711 m (d8 0 3) g8 (H m 32) := (RY_fr w4691 gm f4716 rfl (RY_fr hW gm f4692 rfl h4681))
  have h4750 : RB T H4711 m e8 d8 := (RB_fr w4691 gm f4716 rfl h4707)
  exact WL.loc hX (by simp) (next T H4711 ⟨⟨w4715, g0, gx, gm, go, by omega, by omega⟩, ⟨_, tc, tm, cu, dr, _, _, _, _, _, ce8, q4729, gtc, h4737, q4731, gtm, h4738, q4733, gcu, q4735, gdr, h4739, h4740, h4741, h4742, h4743, hC1, hC2, h4744, h4750, (h4745).1, (h4749).1, hE, hZ, (by omega), (by assumption), (by omega), (by first | assumption | exact SG_0), q4747, gce8, h4736, h4748, a4721, gm⟩, by omega, by omega⟩ (by omega) (by omega))
set_option maxHeartbeats 4000000 in
theorem wl_c32 {kt : Nat → Option mc_E} {CB SB : Nat} {X : mc_S → Prop} {T : wq_T} {H : wq_H} {Len x m o : Nat} {i : Int} (hX : wlX kt CB SB X) (hb : T.2.1 ≤ CB ∧ T.2.2.1 ≤ SB) (hI : wlJ Len x m o T H) (hL : Len ≤ 3072) (hi : 0 ≤ i ∧ i + 6 ≤ Len) (hb2 : T.2.1 + 20 ≤ CB ∧ T.2.2.1 + 500 ≤ SB)  (next : ∀ T' H', wlJ Len x m o T' H' → T'.2.1 ≤ T.2.1 + 20 → T'.2.2.1 ≤ T.2.2.1 + 500 → WL kt CB SB X 1654 (wlL i x m o) [] T' H') : WL kt CB SB X 1201 (wlL i x m o) [] T H := by
  obtain ⟨⟨hW, g0, gx, gm, go, hK, hr⟩, hXI, hY1, hY2⟩ := hI
  refine wl_of hX hb cL_1201 (rw_aload_n (pc' := 1202) (v := .ref x) rfl rfl rfl ?_)
  refine wl_of hX hb cL_1202 (rw_aload_n (pc' := 1203) (v := .ref 0) rfl rfl rfl ?_)
  refine wl_of hX hb cL_1203 (rw_iload (pc' := 1205) (z := i) rfl rfl ?_)
  refine wl_of hX hb cL_1205 (rw_iconst (pc' := 1206) rfl ?_)
  refine wl_of hX hb cL_1206 (rw_iadd (pc' := 1207) rfl ?_)
  refine wl_of hX hb cL_1207 (xa_I (so := 0) (pc' := 1208) (a := 0) hW g0 (wsh_s _) (by omega) (wty_s _ _) (by omega) (by omega) rfl (fun b4751 b4752 => ?_))
  obtain ⟨B, tc, tm, cu, dr, C8, e8, d8, n8, g8, ce8, e0, gtc, htc, em, gtm, htm, ecu, gcu, edr, gdr, hcu, hdr, hdec, hded, hsp, hC1, hC2, hcu8, hrb8, hcg8, hmn8, hE, hZ, hn8, hXA, hV8, hSG, ece8, gce8, hcen8, hhdr8, hknn8, -⟩ := hXI
  have hN3 := RB_n3 hrb8
  have hE13 : ∀ h : Nat, h < 24 → 0 ≤ e8 13 h ∧ e8 13 h ≤ 100 := fun k hk => by
    obtain ⟨s, h1, h2, h3⟩ := hcu8.1.2.2.1
    exact ⟨(h3 k hk).1, (h3 k hk).2.1⟩
  have hXW := hXA.1
  have hXN := hXA.2
  have hE0 : e8 0 3 = d8 0 3 ∧ e8 0 0 = d8 0 0 := by
    have h := hE 0 (by decide)
    exact ⟨congrFun h 3, congrFun h 0⟩
  have u4753 := CU_k hcu8
  have h4754 : CY T H cu (d8 0 3) g8 (H cu 17) := ⟨hcg8, rfl⟩
  have h4755 : RY T H m (d8 0 3) g8 (H m 32) := ⟨hmn8, rfl⟩
  obtain ⟨t9, ht9⟩ : ∃ t : Int, t = H x 9 := ⟨_, rfl⟩
  obtain ⟨y9, hy9⟩ : ∃ y : Int, y = H 0 ((i + 1).toNat) := ⟨_, rfl⟩
  obtain ⟨r4756, q4757, g4758⟩ := hW.ref gx (t' := 6) (n := 13) (j := 2) (p := 0) (q := 0) rfl (by decide) rfl
  refine wl_of hX hb cL_1208 (xc_V (pc' := 1211) (r := x) (as := [vI (H 0 ((i + 1).toNat))]) (st := []) (lm_11_155) rfl rfl (Nat.le_of_ble_eq_true rfl) hW gx sh_1 (by decide) rfl (by decide) (u_132 (e := e8) (d := d8) (n := n8) hW gx ⟨by omega, by omega⟩ ecu gcu q4757 g4758 ece8 gce8 (by assumption) (by assumption) (by omega) (by omega) (by omega) (by omega) hcu8 hcen8 hhdr8) (fun R4759 T4760 H4761 p4762 => ?_))
  obtain ⟨e4763, w4765, f4766, z4767, e4764, b4768, p4769⟩ := p4762
  subst e4763
  subst e4764
  show WL _ _ _ _ 1211 [(4, vI i), (3, .ref o), (2, .ref m), (1, .ref x), (0, .ref 0)] [vI z4767] _ H4761
  refine wl_of hX hb cL_1211 (rw_pop (pc' := 1212) rfl rfl ?_)
  refine wl_of hX hb cL_1212 (rw_aload_n (pc' := 1213) (v := .ref m) rfl rfl rfl ?_)
  refine wl_of hX hb cL_1213 (rw_aload_n (pc' := 1214) (v := .ref 0) rfl rfl rfl ?_)
  refine wl_of hX hb cL_1214 (rw_iload (pc' := 1216) (z := i) rfl rfl ?_)
  refine wl_of hX hb cL_1216 (rw_iconst (pc' := 1217) rfl ?_)
  refine wl_of hX hb cL_1217 (rw_iadd (pc' := 1218) rfl ?_)
  have k4773 : H4761 0 ((i + 1).toNat) = H 0 ((i + 1).toNat) := (f4766 0 ((i + 1).toNat) _ g0 (wmem_s rfl))
  refine wl_of hX hb cL_1218 (xa_I (so := 0) (pc' := 1219) (a := 0) w4765 g0 (wsh_s _) (by omega) (wty_s _ _) (by omega) (by omega) rfl (fun b4771 b4772 => ?_))
  have k4774 : wKI H4761 m = wKI H m := (wKI_fr hW gm f4766 rfl)
  have k4775 : H4761 x 9 = H x 9 := (f4766 x 9 _ gx rfl)
  have k4776 : H4761 m 6 = H m 6 := (f4766 m 6 _ gm rfl)
  have k4777 : H4761 x 11 = H x 11 := (f4766 x 11 _ gx rfl)
  have k4778 : H4761 m 13 = H m 13 := (f4766 m 13 _ gm rfl)
  have k4779 : H4761 x 8 = H x 8 := (f4766 x 8 _ gx rfl)
  have k4780 : H4761 m 3 = H m 3 := (f4766 m 3 _ gm rfl)
  rw [show H4761 0 ((i + 1).toNat) = H 0 ((i + 1).toNat) by omega]
  have h4781 : RB T H4761 m e8 d8 := (RB_fr hW gm f4766 rfl hrb8)
  have h4782 : KNN T H4761 m e8 d8 := (KNN_fr hW gm f4766 rfl hknn8)
  refine wl_of hX hb cL_1219 (xc_V (pc' := 1222) (r := m) (as := [vI (H 0 ((i + 1).toNat))]) (st := []) (lm_11_158) rfl rfl (Nat.le_of_ble_eq_true rfl) w4765 gm sh_42 (by decide) rfl (by decide) (u_272 (e := e8) (d := d8) w4765 gm ⟨by omega, by omega⟩ (by omega) (by assumption) (by assumption) (by assumption) (by assumption) h4781 h4782) (fun R4783 T4784 H4785 p4786 => ?_))
  obtain ⟨e4787, w4789, f4790, z4791, e4788, b4792, p4793⟩ := p4786
  subst e4787
  subst e4788
  obtain ⟨a4794, a4795⟩ := p4793
  show WL _ _ _ _ 1222 [(4, vI i), (3, .ref o), (2, .ref m), (1, .ref x), (0, .ref 0)] [vI z4791] _ H4785
  refine wl_of hX hb cL_1222 (rw_pop (pc' := 1223) rfl rfl ?_)
  refine wl_of hX hb cL_1223 (rw_goto (p1 := 1654) (by decide) ?_)
  have k4796 : H4785 x 9 = H4761 x 9 := (f4790 x 9 _ gx rfl)
  have k4797 : H4785 m 6 = H4761 m 6 := (f4790 m 6 _ gm rfl)
  have k4798 : H4785 x 11 = H4761 x 11 := (f4790 x 11 _ gx rfl)
  have k4799 : H4785 m 13 = H4761 m 13 := (f4790 m 13 _ gm rfl)
  have k4800 : H4785 x 8 = H4761 x 8 := (f4790 x 8 _ gx rfl)
  have k4801 : H4785 m 3 = H4761 m 3 := (f4790 m 3 _ gm rfl)
  have k4802 : H4785 x 0 = H x 0 := ((f4790 x 0 _ gx rfl).trans (f4766 x 0 _ gx rfl))
  have q4803 : H4785 x 0 = (tc : Int) := k4802.trans e0
  have k4804 : H4785 m 5 = H m 5 := ((f4790 m 5 _ gm rfl).trans (f4766 m 5 _ gm rfl))
  have q4805 : H4785 m 5 = (tm : Int) := k4804.trans em
  have k4806 : H4785 x 6 = H x 6 := ((f4790 x 6 _ gx rfl).trans (f4766 x 6 _ gx rfl))
  have q4807 : H4785 x 6 = (cu : Int) := k4806.trans ecu
  have k4808 : H4785 x 7 = H x 7 := ((f4790 x 7 _ gx rfl).trans (f4766 x 7 _ gx rfl))
  have q4809 : H4785 x 7 = (dr : Int) := k4808.trans edr
  have h4810 : CEN T H4785 ce8 e8 d8 := (CEN_fr w4765 gce8 f4790 rfl p4769)
  have h4811 : TP T H4785 tc B := (TP_fr w4765 gtc f4790 rfl (TP_fr hW gtc f4766 rfl htc))
  have h4812 : TM T H4785 tm B := (TM_fr w4765 gtm f4790 rfl (TM_fr hW gtm f4766 rfl htm))
  have h4813 : DD T H4785 cu  := (DD_fr w4765 gcu f4790 rfl (DD_fr hW gcu f4766 rfl hcu))
  have h4814 : DD T H4785 dr  := (DD_fr w4765 gdr f4790 rfl (DD_fr hW gdr f4766 rfl hdr))
  have h4815 : DE T H4785 cu  := (DE_fr w4765 gcu f4790 rfl (DE_fr hW gcu f4766 rfl hdec))
  have h4816 : DE T H4785 dr  := (DE_fr w4765 gdr f4790 rfl (DE_fr hW gdr f4766 rfl hded))
  have h4817 : SP T H4785 x C8 := (SP_fr w4765 gx f4790 rfl (SP_fr hW gx f4766 rfl hsp))
  have h4818 : CU T H4785 cu e8 d8 n8 := (CU_fr w4765 gcu f4790 rfl (CU_fr hW gcu f4766 rfl hcu8))
  have h4819 : CY T H4785 cu (d8 0 3) g8 (H cu 17) := (CY_fr w4765 gcu f4790 rfl (CY_fr hW gcu f4766 rfl h4754))
  have k4820 : H4785 x 3 = H x 3 := ((f4790 x 3 _ gx rfl).trans (f4766 x 3 _ gx rfl))
  have q4821 : H4785 x 3 = (ce8 : Int) := k4820.trans ece8
  have h4822 : HDR T H4785 ce8  := (HDR_fr w4765 gce8 f4790 rfl (HDR_fr hW gce8 f4766 rfl hhdr8))
  have h4823 : RY T H4785 m (d8 0 3) g8 (H m 32) := (RY_fr w4765 gm f4790 rfl (RY_fr hW gm f4766 rfl h4755))
  have h4824 : RB T H4785 m e8 d8 := (RB_fr w4765 gm f4790 rfl h4781)
  exact WL.loc hX (by simp) (next T H4785 ⟨⟨w4789, g0, gx, gm, go, by omega, by omega⟩, ⟨_, tc, tm, cu, dr, _, _, _, _, _, ce8, q4803, gtc, h4811, q4805, gtm, h4812, q4807, gcu, q4809, gdr, h4813, h4814, h4815, h4816, h4817, hC1, hC2, h4818, h4824, (h4819).1, (h4823).1, hE, hZ, (by omega), (by assumption), (by omega), (by first | assumption | exact SG_0), q4821, gce8, h4810, h4822, a4795, gm⟩, by omega, by omega⟩ (by omega) (by omega))
set_option maxHeartbeats 4000000 in
theorem wl_c33 {kt : Nat → Option mc_E} {CB SB : Nat} {X : mc_S → Prop} {T : wq_T} {H : wq_H} {Len x m o : Nat} {i : Int} (hX : wlX kt CB SB X) (hb : T.2.1 ≤ CB ∧ T.2.2.1 ≤ SB) (hI : wlJ Len x m o T H) (hL : Len ≤ 3072) (hi : 0 ≤ i ∧ i + 6 ≤ Len) (hb2 : T.2.1 + 20 ≤ CB ∧ T.2.2.1 + 500 ≤ SB)  (next : ∀ T' H', wlJ Len x m o T' H' → T'.2.1 ≤ T.2.1 + 20 → T'.2.2.1 ≤ T.2.2.1 + 500 → WL kt CB SB X 1654 (wlL i x m o) [] T' H') : WL kt CB SB X 1226 (wlL i x m o) [] T H := by
  obtain ⟨⟨hW, g0, gx, gm, go, hK, hr⟩, hXI, hY1, hY2⟩ := hI
  refine wl_of hX hb cL_1226 (rw_aload_n (pc' := 1227) (v := .ref x) rfl rfl rfl ?_)
  refine wl_of hX hb cL_1227 (rw_aload_n (pc' := 1228) (v := .ref 0) rfl rfl rfl ?_)
  refine wl_of hX hb cL_1228 (rw_iload (pc' := 1230) (z := i) rfl rfl ?_)
  refine wl_of hX hb cL_1230 (rw_iconst (pc' := 1231) rfl ?_)
  refine wl_of hX hb cL_1231 (rw_iadd (pc' := 1232) rfl ?_)
  refine wl_of hX hb cL_1232 (xa_I (so := 0) (pc' := 1233) (a := 0) hW g0 (wsh_s _) (by omega) (wty_s _ _) (by omega) (by omega) rfl (fun b4825 b4826 => ?_))
  obtain ⟨B, tc, tm, cu, dr, C8, e8, d8, n8, g8, ce8, e0, gtc, htc, em, gtm, htm, ecu, gcu, edr, gdr, hcu, hdr, hdec, hded, hsp, hC1, hC2, hcu8, hrb8, hcg8, hmn8, hE, hZ, hn8, hXA, hV8, hSG, ece8, gce8, hcen8, hhdr8, hknn8, -⟩ := hXI
  have hN3 := RB_n3 hrb8
  have hE13 : ∀ h : Nat, h < 24 → 0 ≤ e8 13 h ∧ e8 13 h ≤ 100 := fun k hk => by
    obtain ⟨s, h1, h2, h3⟩ := hcu8.1.2.2.1
    exact ⟨(h3 k hk).1, (h3 k hk).2.1⟩
  have hXW := hXA.1
  have hXN := hXA.2
  have hE0 : e8 0 3 = d8 0 3 ∧ e8 0 0 = d8 0 0 := by
    have h := hE 0 (by decide)
    exact ⟨congrFun h 3, congrFun h 0⟩
  have u4827 := CU_k hcu8
  have h4828 : CY T H cu (d8 0 3) g8 (H cu 17) := ⟨hcg8, rfl⟩
  have h4829 : RY T H m (d8 0 3) g8 (H m 32) := ⟨hmn8, rfl⟩
  obtain ⟨t9, ht9⟩ : ∃ t : Int, t = H x 9 := ⟨_, rfl⟩
  obtain ⟨y9, hy9⟩ : ∃ y : Int, y = H 0 ((i + 1).toNat) := ⟨_, rfl⟩
  obtain ⟨r4830, q4831, g4832⟩ := hW.ref gx (t' := 6) (n := 13) (j := 2) (p := 0) (q := 0) rfl (by decide) rfl
  refine wl_of hX hb cL_1233 (xc_V (pc' := 1236) (r := x) (as := [vI (H 0 ((i + 1).toNat))]) (st := []) (lm_11_159) rfl rfl (Nat.le_of_ble_eq_true rfl) hW gx sh_1 (by decide) rfl (by decide) (u_135 (e := e8) (d := d8) (n := n8) hW gx ⟨by omega, by omega⟩ ecu gcu q4831 g4832 ece8 gce8 (by assumption) (by assumption) (by omega) (by omega) (by omega) (by omega) hcu8 hcen8 hhdr8) (fun R4833 T4834 H4835 p4836 => ?_))
  obtain ⟨e4837, w4839, f4840, z4841, e4838, b4842, p4843⟩ := p4836
  subst e4837
  subst e4838
  show WL _ _ _ _ 1236 [(4, vI i), (3, .ref o), (2, .ref m), (1, .ref x), (0, .ref 0)] [vI z4841] _ H4835
  refine wl_of hX hb cL_1236 (rw_pop (pc' := 1237) rfl rfl ?_)
  refine wl_of hX hb cL_1237 (rw_aload_n (pc' := 1238) (v := .ref m) rfl rfl rfl ?_)
  refine wl_of hX hb cL_1238 (rw_aload_n (pc' := 1239) (v := .ref 0) rfl rfl rfl ?_)
  refine wl_of hX hb cL_1239 (rw_iload (pc' := 1241) (z := i) rfl rfl ?_)
  refine wl_of hX hb cL_1241 (rw_iconst (pc' := 1242) rfl ?_)
  refine wl_of hX hb cL_1242 (rw_iadd (pc' := 1243) rfl ?_)
  have k4847 : H4835 0 ((i + 1).toNat) = H 0 ((i + 1).toNat) := (f4840 0 ((i + 1).toNat) _ g0 (wmem_s rfl))
  refine wl_of hX hb cL_1243 (xa_I (so := 0) (pc' := 1244) (a := 0) w4839 g0 (wsh_s _) (by omega) (wty_s _ _) (by omega) (by omega) rfl (fun b4845 b4846 => ?_))
  have k4848 : wKI H4835 m = wKI H m := (wKI_fr hW gm f4840 rfl)
  have k4849 : H4835 x 9 = H x 9 := (f4840 x 9 _ gx rfl)
  have k4850 : H4835 m 6 = H m 6 := (f4840 m 6 _ gm rfl)
  have k4851 : H4835 x 11 = H x 11 := (f4840 x 11 _ gx rfl)
  have k4852 : H4835 m 13 = H m 13 := (f4840 m 13 _ gm rfl)
  have k4853 : H4835 x 8 = H x 8 := (f4840 x 8 _ gx rfl)
  have k4854 : H4835 m 3 = H m 3 := (f4840 m 3 _ gm rfl)
  rw [show H4835 0 ((i + 1).toNat) = H 0 ((i + 1).toNat) by omega]
  have h4855 : RB T H4835 m e8 d8 := (RB_fr hW gm f4840 rfl hrb8)
  have h4856 : KNN T H4835 m e8 d8 := (KNN_fr hW gm f4840 rfl hknn8)
  refine wl_of hX hb cL_1244 (xc_V (pc' := 1247) (r := m) (as := [vI (H 0 ((i + 1).toNat))]) (st := []) (lm_11_162) rfl rfl (Nat.le_of_ble_eq_true rfl) w4839 gm sh_42 (by decide) rfl (by decide) (u_275 (e := e8) (d := d8) w4839 gm ⟨by omega, by omega⟩ (by omega) (by assumption) (by assumption) (by assumption) (by assumption) h4855 h4856) (fun R4857 T4858 H4859 p4860 => ?_))
  obtain ⟨e4861, w4863, f4864, z4865, e4862, b4866, p4867⟩ := p4860
  subst e4861
  subst e4862
  obtain ⟨a4868, a4869⟩ := p4867
  show WL _ _ _ _ 1247 [(4, vI i), (3, .ref o), (2, .ref m), (1, .ref x), (0, .ref 0)] [vI z4865] _ H4859
  refine wl_of hX hb cL_1247 (rw_pop (pc' := 1248) rfl rfl ?_)
  refine wl_of hX hb cL_1248 (rw_goto (p1 := 1654) (by decide) ?_)
  have k4870 : H4859 x 9 = H4835 x 9 := (f4864 x 9 _ gx rfl)
  have k4871 : H4859 m 6 = H4835 m 6 := (f4864 m 6 _ gm rfl)
  have k4872 : H4859 x 11 = H4835 x 11 := (f4864 x 11 _ gx rfl)
  have k4873 : H4859 m 13 = H4835 m 13 := (f4864 m 13 _ gm rfl)
  have k4874 : H4859 x 8 = H4835 x 8 := (f4864 x 8 _ gx rfl)
  have k4875 : H4859 m 3 = H4835 m 3 := (f4864 m 3 _ gm rfl)
  have k4876 : H4859 x 0 = H x 0 := ((f4864 x 0 _ gx rfl).trans (f4840 x 0 _ gx rfl))
  have q4877 : H4859 x 0 = (tc : Int) := k4876.trans e0
  have k4878 : H4859 m 5 = H m 5 := ((f4864 m 5 _ gm rfl).trans (f4840 m 5 _ gm rfl))
  have q4879 : H4859 m 5 = (tm : Int) := k4878.trans em
  have k4880 : H4859 x 6 = H x 6 := ((f4864 x 6 _ gx rfl).trans (f4840 x 6 _ gx rfl))
  have q4881 : H4859 x 6 = (cu : Int) := k4880.trans ecu
  have k4882 : H4859 x 7 = H x 7 := ((f4864 x 7 _ gx rfl).trans (f4840 x 7 _ gx rfl))
  have q4883 : H4859 x 7 = (dr : Int) := k4882.trans edr
  have h4884 : CEN T H4859 ce8 e8 d8 := (CEN_fr w4839 gce8 f4864 rfl p4843)
  have h4885 : TP T H4859 tc B := (TP_fr w4839 gtc f4864 rfl (TP_fr hW gtc f4840 rfl htc))
  have h4886 : TM T H4859 tm B := (TM_fr w4839 gtm f4864 rfl (TM_fr hW gtm f4840 rfl htm))
  have h4887 : DD T H4859 cu  := (DD_fr w4839 gcu f4864 rfl (DD_fr hW gcu f4840 rfl hcu))
  have h4888 : DD T H4859 dr  := (DD_fr w4839 gdr f4864 rfl (DD_fr hW gdr f4840 rfl hdr))
  have h4889 : DE T H4859 cu  := (DE_fr w4839 gcu f4864 rfl (DE_fr hW gcu f4840 rfl hdec))
  have h4890 : DE T H4859 dr  := (DE_fr w4839 gdr f4864 rfl (DE_fr hW gdr f4840 rfl hded))
  have h4891 : SP T H4859 x C8 := (SP_fr w4839 gx f4864 rfl (SP_fr hW gx f4840 rfl hsp))
  have h4892 : CU T H4859 cu e8 d8 n8 := (CU_fr w4839 gcu f4864 rfl (CU_fr hW gcu f4840 rfl hcu8))
  have h4893 : CY T H4859 cu (d8 0 3) g8 (H cu 17) := (CY_fr w4839 gcu f4864 rfl (CY_fr hW gcu f4840 rfl h4828))
  have k4894 : H4859 x 3 = H x 3 := ((f4864 x 3 _ gx rfl).trans (f4840 x 3 _ gx rfl))
  have q4895 : H4859 x 3 = (ce8 : Int) := k4894.trans ece8
  have h4896 : HDR T H4859 ce8  := (HDR_fr w4839 gce8 f4864 rfl (HDR_fr hW gce8 f4840 rfl hhdr8))
  have h4897 : RY T H4859 m (d8 0 3) g8 (H m 32) := (RY_fr w4839 gm f4864 rfl (RY_fr hW gm f4840 rfl h4829))
  have h4898 : RB T H4859 m e8 d8 := (RB_fr w4839 gm f4864 rfl h4855)
  exact WL.loc hX (by simp) (next T H4859 ⟨⟨w4863, g0, gx, gm, go, by omega, by omega⟩, ⟨_, tc, tm, cu, dr, _, _, _, _, _, ce8, q4877, gtc, h4885, q4879, gtm, h4886, q4881, gcu, q4883, gdr, h4887, h4888, h4889, h4890, h4891, hC1, hC2, h4892, h4898, (h4893).1, (h4897).1, hE, hZ, (by omega), (by assumption), (by omega), (by first | assumption | exact SG_0), q4895, gce8, h4884, h4896, a4869, gm⟩, by omega, by omega⟩ (by omega) (by omega))
set_option maxHeartbeats 4000000 in
theorem wl_c34 {kt : Nat → Option mc_E} {CB SB : Nat} {X : mc_S → Prop} {T : wq_T} {H : wq_H} {Len x m o : Nat} {i : Int} (hX : wlX kt CB SB X) (hb : T.2.1 ≤ CB ∧ T.2.2.1 ≤ SB) (hI : wlJ Len x m o T H) (hL : Len ≤ 3072) (hi : 0 ≤ i ∧ i + 6 ≤ Len) (hb2 : T.2.1 + 20 ≤ CB ∧ T.2.2.1 + 500 ≤ SB)  (next : ∀ T' H', wlJ Len x m o T' H' → T'.2.1 ≤ T.2.1 + 20 → T'.2.2.1 ≤ T.2.2.1 + 500 → WL kt CB SB X 1654 (wlL i x m o) [] T' H') : WL kt CB SB X 1251 (wlL i x m o) [] T H := by
  obtain ⟨⟨hW, g0, gx, gm, go, hK, hr⟩, hXI, hY1, hY2⟩ := hI
  refine wl_of hX hb cL_1251 (rw_aload_n (pc' := 1252) (v := .ref x) rfl rfl rfl ?_)
  obtain ⟨B, tc, tm, cu, dr, C8, e8, d8, n8, g8, ce8, e0, gtc, htc, em, gtm, htm, ecu, gcu, edr, gdr, hcu, hdr, hdec, hded, hsp, hC1, hC2, hcu8, hrb8, hcg8, hmn8, hE, hZ, hn8, hXA, hV8, hSG, ece8, gce8, hcen8, hhdr8, hknn8, -⟩ := hXI
  have hN3 := RB_n3 hrb8
  have hE13 : ∀ h : Nat, h < 24 → 0 ≤ e8 13 h ∧ e8 13 h ≤ 100 := fun k hk => by
    obtain ⟨s, h1, h2, h3⟩ := hcu8.1.2.2.1
    exact ⟨(h3 k hk).1, (h3 k hk).2.1⟩
  have hXW := hXA.1
  have hXN := hXA.2
  have hE0 : e8 0 3 = d8 0 3 ∧ e8 0 0 = d8 0 0 := by
    have h := hE 0 (by decide)
    exact ⟨congrFun h 3, congrFun h 0⟩
  have u4899 := CU_k hcu8
  have h4900 : CY T H cu (d8 0 3) g8 (H cu 17) := ⟨hcg8, rfl⟩
  have h4901 : RY T H m (d8 0 3) g8 (H m 32) := ⟨hmn8, rfl⟩
  obtain ⟨t9, ht9⟩ : ∃ t : Int, t = H x 9 := ⟨_, rfl⟩
  obtain ⟨r4902, q4903, g4904⟩ := hW.ref gx (t' := 6) (n := 13) (j := 2) (p := 0) (q := 0) rfl (by decide) rfl
  refine wl_of hX hb cL_1252 (xc_V (pc' := 1255) (r := x) (as := []) (st := []) (lm_11_163) rfl rfl (Nat.le_of_ble_eq_true rfl) hW gx sh_1 (by decide) rfl (by decide) (u_137 (e := e8) (d := d8) (n := n8) hW gx ecu gcu q4903 g4904 ece8 gce8 (by assumption) (by assumption) (by omega) (by omega) (by omega) (by omega) hcu8 hcen8 hhdr8) (fun R4905 T4906 H4907 p4908 => ?_))
  obtain ⟨e4909, w4911, f4912, z4913, e4910, b4914, p4915⟩ := p4908
  subst e4909
  subst e4910
  show WL _ _ _ _ 1255 [(4, vI i), (3, .ref o), (2, .ref m), (1, .ref x), (0, .ref 0)] [vI z4913] _ H4907
  refine wl_of hX hb cL_1255 (rw_pop (pc' := 1256) rfl rfl ?_)
  refine wl_of hX hb cL_1256 (rw_aload_n (pc' := 1257) (v := .ref m) rfl rfl rfl ?_)
  have k4917 : wKI H4907 m = wKI H m := (wKI_fr hW gm f4912 rfl)
  have k4918 : H4907 x 9 = H x 9 := (f4912 x 9 _ gx rfl)
  have k4919 : H4907 m 6 = H m 6 := (f4912 m 6 _ gm rfl)
  have k4920 : H4907 x 11 = H x 11 := (f4912 x 11 _ gx rfl)
  have k4921 : H4907 m 13 = H m 13 := (f4912 m 13 _ gm rfl)
  have k4922 : H4907 x 8 = H x 8 := (f4912 x 8 _ gx rfl)
  have k4923 : H4907 m 3 = H m 3 := (f4912 m 3 _ gm rfl)
  have h4924 : RB T H4907 m e8 d8 := (RB_fr hW gm f4912 rfl hrb8)
  have h4925 : KNN T H4907 m e8 d8 := (KNN_fr hW gm f4912 rfl hknn8)
  refine wl_of hX hb cL_1257 (xc_V (pc' := 1260) (r := m) (as := []) (st := []) (lm_11_166) rfl rfl (Nat.le_of_ble_eq_true rfl) w4911 gm sh_42 (by decide) rfl (by decide) (u_276 (e := e8) (d := d8) w4911 gm (by omega) (by assumption) (by assumption) (by assumption) (by assumption) h4924 h4925) (fun R4926 T4927 H4928 p4929 => ?_))
  obtain ⟨e4930, w4932, f4933, z4934, e4931, b4935, p4936⟩ := p4929
  subst e4930
  subst e4931
  obtain ⟨a4937, a4938⟩ := p4936
  show WL _ _ _ _ 1260 [(4, vI i), (3, .ref o), (2, .ref m), (1, .ref x), (0, .ref 0)] [vI z4934] _ H4928
  refine wl_of hX hb cL_1260 (rw_pop (pc' := 1261) rfl rfl ?_)
  refine wl_of hX hb cL_1261 (rw_goto (p1 := 1654) (by decide) ?_)
  have k4939 : H4928 x 9 = H4907 x 9 := (f4933 x 9 _ gx rfl)
  have k4940 : H4928 m 6 = H4907 m 6 := (f4933 m 6 _ gm rfl)
  have k4941 : H4928 x 11 = H4907 x 11 := (f4933 x 11 _ gx rfl)
  have k4942 : H4928 m 13 = H4907 m 13 := (f4933 m 13 _ gm rfl)
  have k4943 : H4928 x 8 = H4907 x 8 := (f4933 x 8 _ gx rfl)
  have k4944 : H4928 m 3 = H4907 m 3 := (f4933 m 3 _ gm rfl)
  have k4945 : H4928 x 0 = H x 0 := ((f4933 x 0 _ gx rfl).trans (f4912 x 0 _ gx rfl))
  have q4946 : H4928 x 0 = (tc : Int) := k4945.trans e0
  have k4947 : H4928 m 5 = H m 5 := ((f4933 m 5 _ gm rfl).trans (f4912 m 5 _ gm rfl))
  have q4948 : H4928 m 5 = (tm : Int) := k4947.trans em
  have k4949 : H4928 x 6 = H x 6 := ((f4933 x 6 _ gx rfl).trans (f4912 x 6 _ gx rfl))
  have q4950 : H4928 x 6 = (cu : Int) := k4949.trans ecu
  have k4951 : H4928 x 7 = H x 7 := ((f4933 x 7 _ gx rfl).trans (f4912 x 7 _ gx rfl))
  have q4952 : H4928 x 7 = (dr : Int) := k4951.trans edr
  have h4953 : CEN T H4928 ce8 e8 d8 := (CEN_fr w4911 gce8 f4933 rfl p4915)
  have h4954 : TP T H4928 tc B := (TP_fr w4911 gtc f4933 rfl (TP_fr hW gtc f4912 rfl htc))
  have h4955 : TM T H4928 tm B := (TM_fr w4911 gtm f4933 rfl (TM_fr hW gtm f4912 rfl htm))
  have h4956 : DD T H4928 cu  := (DD_fr w4911 gcu f4933 rfl (DD_fr hW gcu f4912 rfl hcu))
  have h4957 : DD T H4928 dr  := (DD_fr w4911 gdr f4933 rfl (DD_fr hW gdr f4912 rfl hdr))
  have h4958 : DE T H4928 cu  := (DE_fr w4911 gcu f4933 rfl (DE_fr hW gcu f4912 rfl hdec))
  have h4959 : DE T H4928 dr  := (DE_fr w4911 gdr f4933 rfl (DE_fr hW gdr f4912 rfl hded))
  have h4960 : SP T H4928 x C8 := (SP_fr w4911 gx f4933 rfl (SP_fr hW gx f4912 rfl hsp))
  have h4961 : CU T H4928 cu e8 d8 n8 := (CU_fr w4911 gcu f4933 rfl (CU_fr hW gcu f4912 rfl hcu8))
  have h4962 : CY T H4928 cu (d8 0 3) g8 (H cu 17) := (CY_fr w4911 gcu f4933 rfl (CY_fr hW gcu f4912 rfl h4900))
  have k4963 : H4928 x 3 = H x 3 := ((f4933 x 3 _ gx rfl).trans (f4912 x 3 _ gx rfl))
  have q4964 : H4928 x 3 = (ce8 : Int) := k4963.trans ece8
  have h4965 : HDR T H4928 ce8  := (HDR_fr w4911 gce8 f4933 rfl (HDR_fr hW gce8 f4912 rfl hhdr8))
  have h4966 : RY T H4928 m (d8 0 3) g8 (H m 32) := (RY_fr w4911 gm f4933 rfl (RY_fr hW gm f4912 rfl h4901))
  have h4967 : RB T H4928 m e8 d8 := (RB_fr w4911 gm f4933 rfl h4924)
  exact WL.loc hX (by simp) (next T H4928 ⟨⟨w4932, g0, gx, gm, go, by omega, by omega⟩, ⟨_, tc, tm, cu, dr, _, _, _, _, _, ce8, q4946, gtc, h4954, q4948, gtm, h4955, q4950, gcu, q4952, gdr, h4956, h4957, h4958, h4959, h4960, hC1, hC2, h4961, h4967, (h4962).1, (h4966).1, hE, hZ, (by omega), (by assumption), (by omega), (by first | assumption | exact SG_0), q4964, gce8, h4953, h4965, a4938, gm⟩, by omega, by omega⟩ (by omega) (by omega))
set_option maxHeartbeats 4000000 in
theorem wl_c35 {kt : Nat → Option mc_E} {CB SB : Nat} {X : mc_S → Prop} {T : wq_T} {H : wq_H} {Len x m o : Nat} {i : Int} (hX : wlX kt CB SB X) (hb : T.2.1 ≤ CB ∧ T.2.2.1 ≤ SB) (hI : wlJ Len x m o T H) (hL : Len ≤ 3072) (hi : 0 ≤ i ∧ i + 6 ≤ Len) (hb2 : T.2.1 + 20 ≤ CB ∧ T.2.2.1 + 500 ≤ SB)  (next : ∀ T' H', wlJ Len x m o T' H' → T'.2.1 ≤ T.2.1 + 20 → T'.2.2.1 ≤ T.2.2.1 + 500 → WL kt CB SB X 1654 (wlL i x m o) [] T' H') : WL kt CB SB X 1264 (wlL i x m o) [] T H := by
  obtain ⟨⟨hW, g0, gx, gm, go, hK, hr⟩, hXI, hY1, hY2⟩ := hI
  refine wl_of hX hb cL_1264 (rw_aload_n (pc' := 1265) (v := .ref x) rfl rfl rfl ?_)
  refine wl_of hX hb cL_1265 (rw_aload_n (pc' := 1266) (v := .ref 0) rfl rfl rfl ?_)
  refine wl_of hX hb cL_1266 (rw_iload (pc' := 1268) (z := i) rfl rfl ?_)
  refine wl_of hX hb cL_1268 (rw_iconst (pc' := 1269) rfl ?_)
  refine wl_of hX hb cL_1269 (rw_iadd (pc' := 1270) rfl ?_)
  refine wl_of hX hb cL_1270 (xa_I (so := 0) (pc' := 1271) (a := 0) hW g0 (wsh_s _) (by omega) (wty_s _ _) (by omega) (by omega) rfl (fun b4968 b4969 => ?_))
  refine wl_of hX hb cL_1271 (rw_aload_n (pc' := 1272) (v := .ref 0) rfl rfl rfl ?_)
  refine wl_of hX hb cL_1272 (rw_iload (pc' := 1274) (z := i) rfl rfl ?_)
  refine wl_of hX hb cL_1274 (rw_iconst (pc' := 1275) rfl ?_)
  refine wl_of hX hb cL_1275 (rw_iadd (pc' := 1276) rfl ?_)
  refine wl_of hX hb cL_1276 (xa_I (so := 0) (pc' := 1277) (a := 0) hW g0 (wsh_s _) (by omega) (wty_s _ _) (by omega) (by omega) rfl (fun b4970 b4971 => ?_))
  refine wl_of hX hb cL_1277 (rw_if_eq (p1 := 1284) (p2 := 1280) (by decide) rfl ⟨by omega, by omega⟩ (fun c4972 => ?_) (fun c4972 => ?_))
  · refine wl_of hX hb cL_1284 (rw_iconst (pc' := 1285) rfl ?_)
    obtain ⟨B, tc, tm, cu, dr, C8, e8, d8, n8, g8, ce8, e0, gtc, htc, em, gtm, htm, ecu, gcu, edr, gdr, hcu, hdr, hdec, hded, hsp, hC1, hC2, hcu8, hrb8, hcg8, hmn8, hE, hZ, hn8, hXA, hV8, hSG, ece8, gce8, hcen8, hhdr8, hknn8, -⟩ := hXI
    have hN3 := RB_n3 hrb8
    have hE13 : ∀ h : Nat, h < 24 → 0 ≤ e8 13 h ∧ e8 13 h ≤ 100 := fun k hk => by
      obtain ⟨s, h1, h2, h3⟩ := hcu8.1.2.2.1
      exact ⟨(h3 k hk).1, (h3 k hk).2.1⟩
    have hXW := hXA.1
    have hXN := hXA.2
    have hE0 : e8 0 3 = d8 0 3 ∧ e8 0 0 = d8 0 0 := by
      have h := hE 0 (by decide)
      exact ⟨congrFun h 3, congrFun h 0⟩
    have u4973 := CU_k hcu8
    have h4974 : CY T H cu (d8 0 3) g8 (H cu 17) := ⟨hcg8, rfl⟩
    have h4975 : RY T H m (d8 0 3) g8 (H m 32) := ⟨hmn8, rfl⟩
    obtain ⟨t9, ht9⟩ : ∃ t : Int, t = H x 9 := ⟨_, rfl⟩
    obtain ⟨y9, hy9⟩ : ∃ y : Int, y = 0 := ⟨_, rfl⟩
    obtain ⟨r4976, q4977, g4978⟩ := hW.ref gx (t' := 6) (n := 13) (j := 2) (p := 0) (q := 0) rfl (by decide) rfl
    refine wl_of hX hb cL_1285 (xc_V (pc' := 1288) (r := x) (as := [vI (H 0 ((i + 1).toNat)), vI 0]) (st := []) (lm_11_167) rfl rfl (Nat.le_of_ble_eq_true rfl) hW gx sh_1 (by decide) rfl (by decide) (u_146 (e := e8) (d := d8) (n := n8) hW gx ⟨by omega, by omega⟩ ⟨by decide, by decide⟩ ecu gcu q4977 g4978 ece8 gce8 (by assumption) (by assumption) (by omega) (by omega) (by omega) (by omega) hcu8 hcen8 hhdr8) (fun R4979 T4980 H4981 p4982 => ?_))
    obtain ⟨e4983, w4985, f4986, z4987, e4984, b4988, p4989⟩ := p4982
    subst e4983
    subst e4984
    show WL _ _ _ _ 1288 [(4, vI i), (3, .ref o), (2, .ref m), (1, .ref x), (0, .ref 0)] [vI z4987] _ H4981
    refine wl_of hX hb cL_1288 (rw_pop (pc' := 1289) rfl rfl ?_)
    refine wl_of hX hb cL_1289 (rw_aload_n (pc' := 1290) (v := .ref m) rfl rfl rfl ?_)
    refine wl_of hX hb cL_1290 (rw_aload_n (pc' := 1291) (v := .ref 0) rfl rfl rfl ?_)
    refine wl_of hX hb cL_1291 (rw_iload (pc' := 1293) (z := i) rfl rfl ?_)
    refine wl_of hX hb cL_1293 (rw_iconst (pc' := 1294) rfl ?_)
    refine wl_of hX hb cL_1294 (rw_iadd (pc' := 1295) rfl ?_)
    have k4993 : H4981 0 ((i + 1).toNat) = H 0 ((i + 1).toNat) := (f4986 0 ((i + 1).toNat) _ g0 (wmem_s rfl))
    refine wl_of hX hb cL_1295 (xa_I (so := 0) (pc' := 1296) (a := 0) w4985 g0 (wsh_s _) (by omega) (wty_s _ _) (by omega) (by omega) rfl (fun b4991 b4992 => ?_))
    refine wl_of hX hb cL_1296 (rw_aload_n (pc' := 1297) (v := .ref 0) rfl rfl rfl ?_)
    refine wl_of hX hb cL_1297 (rw_iload (pc' := 1299) (z := i) rfl rfl ?_)
    refine wl_of hX hb cL_1299 (rw_iconst (pc' := 1300) rfl ?_)
    refine wl_of hX hb cL_1300 (rw_iadd (pc' := 1301) rfl ?_)
    have k4996 : H4981 0 ((i + 2).toNat) = H 0 ((i + 2).toNat) := (f4986 0 ((i + 2).toNat) _ g0 (wmem_s rfl))
    refine wl_of hX hb cL_1301 (xa_I (so := 0) (pc' := 1302) (a := 0) w4985 g0 (wsh_s _) (by omega) (wty_s _ _) (by omega) (by omega) rfl (fun b4994 b4995 => ?_))
    refine wl_of hX hb cL_1302 (rw_if_eq (p1 := 1309) (p2 := 1305) (by decide) rfl ⟨by omega, by omega⟩ (fun c4997 => ?_) (fun c4997 => ?_))
    · refine wl_of hX hb cL_1309 (rw_iconst (pc' := 1310) rfl ?_)
      have k4998 : wKI H4981 m = wKI H m := (wKI_fr hW gm f4986 rfl)
      have k4999 : H4981 x 9 = H x 9 := (f4986 x 9 _ gx rfl)
      have k5000 : H4981 m 6 = H m 6 := (f4986 m 6 _ gm rfl)
      have k5001 : H4981 x 11 = H x 11 := (f4986 x 11 _ gx rfl)
      have k5002 : H4981 m 13 = H m 13 := (f4986 m 13 _ gm rfl)
      have k5003 : H4981 x 8 = H x 8 := (f4986 x 8 _ gx rfl)
      have k5004 : H4981 m 3 = H m 3 := (f4986 m 3 _ gm rfl)
      rw [show H4981 0 ((i + 1).toNat) = H 0 ((i + 1).toNat) by omega]
      have h5005 : RB T H4981 m e8 d8 := (RB_fr hW gm f4986 rfl hrb8)
      have h5006 : KNN T H4981 m e8 d8 := (KNN_fr hW gm f4986 rfl hknn8)
      refine wl_of hX hb cL_1310 (xc_V (pc' := 1313) (r := m) (as := [vI (H 0 ((i + 1).toNat)), vI 0]) (st := []) (lm_11_170) rfl rfl (Nat.le_of_ble_eq_true rfl) w4985 gm sh_42 (by decide) rfl (by decide) (u_279 (e := e8) (d := d8) w4985 gm ⟨by omega, by omega⟩ ⟨by decide, by decide⟩ (by omega) (by assumption) (by assumption) (by assumption) (by assumption) h5005 h5006) (fun R5007 T5008 H5009 p5010 => ?_))
      obtain ⟨e5011, w5013, f5014, z5015, e5012, b5016, p5017⟩ := p5010
      subst e5011
      subst e5012
      obtain ⟨a5018, a5019⟩ := p5017
      show WL _ _ _ _ 1313 [(4, vI i), (3, .ref o), (2, .ref m), (1, .ref x), (0, .ref 0)] [vI z5015] _ H5009
      refine wl_of hX hb cL_1313 (rw_pop (pc' := 1314) rfl rfl ?_)
      refine wl_of hX hb cL_1314 (rw_goto (p1 := 1654) (by decide) ?_)
      have k5020 : H5009 x 9 = H4981 x 9 := (f5014 x 9 _ gx rfl)
      have k5021 : H5009 m 6 = H4981 m 6 := (f5014 m 6 _ gm rfl)
      have k5022 : H5009 x 11 = H4981 x 11 := (f5014 x 11 _ gx rfl)
      have k5023 : H5009 m 13 = H4981 m 13 := (f5014 m 13 _ gm rfl)
      have k5024 : H5009 x 8 = H4981 x 8 := (f5014 x 8 _ gx rfl)
      have k5025 : H5009 m 3 = H4981 m 3 := (f5014 m 3 _ gm rfl)
      have k5026 : H5009 x 0 = H x 0 := ((f5014 x 0 _ gx rfl).trans (f4986 x 0 _ gx rfl))
      have q5027 : H5009 x 0 = (tc : Int) := k5026.trans e0
      have k5028 : H5009 m 5 = H m 5 := ((f5014 m 5 _ gm rfl).trans (f4986 m 5 _ gm rfl))
      have q5029 : H5009 m 5 = (tm : Int) := k5028.trans em
      have k5030 : H5009 x 6 = H x 6 := ((f5014 x 6 _ gx rfl).trans (f4986 x 6 _ gx rfl))
      have q5031 : H5009 x 6 = (cu : Int) := k5030.trans ecu
      have k5032 : H5009 x 7 = H x 7 := ((f5014 x 7 _ gx rfl).trans (f4986 x 7 _ gx rfl))
      have q5033 : H5009 x 7 = (dr : Int) := k5032.trans edr
      have h5034 : CEN T H5009 ce8 e8 d8 := (CEN_fr w4985 gce8 f5014 rfl p4989)
      have h5035 : TP T H5009 tc B := (TP_fr w4985 gtc f5014 rfl (TP_fr hW gtc f4986 rfl htc))
      have h5036 : TM T H5009 tm B := (TM_fr w4985 gtm f5014 rfl (TM_fr hW gtm f4986 rfl htm))
      have h5037 : DD T H5009 cu  := (DD_fr w4985 gcu f5014 rfl (DD_fr hW gcu f4986 rfl hcu))
      have h5038 : DD T H5009 dr  := (DD_fr w4985 gdr f5014 rfl (DD_fr hW gdr f4986 rfl hdr))
      have h5039 : DE T H5009 cu  := (DE_fr w4985 gcu f5014 rfl (DE_fr hW gcu f4986 rfl hdec))
      have h5040 : DE T H5009 dr  := (DE_fr w4985 gdr f5014 rfl (DE_fr hW gdr f4986 rfl hded))
      have h5041 : SP T H5009 x C8 := (SP_fr w4985 gx f5014 rfl (SP_fr hW gx f4986 rfl hsp))
      have h5042 : CU T H5009 cu e8 d8 n8 := (CU_fr w4985 gcu f5014 rfl (CU_fr hW gcu f4986 rfl hcu8))
      have h5043 : CY T H5009 cu (d8 0 3) g8 (H cu 17) := (CY_fr w4985 gcu f5014 rfl (CY_fr hW gcu f4986 rfl h4974))
      have k5044 : H5009 x 3 = H x 3 := ((f5014 x 3 _ gx rfl).trans (f4986 x 3 _ gx rfl))
      have q5045 : H5009 x 3 = (ce8 : Int) := k5044.trans ece8
      have h5046 : HDR T H5009 ce8  := (HDR_fr w4985 gce8 f5014 rfl (HDR_fr hW gce8 f4986 rfl hhdr8))
      have h5047 : RY T H5009 m (d8 0 3) g8 (H m 32) := (RY_fr w4985 gm f5014 rfl (RY_fr hW gm f4986 rfl h4975))
      have h5048 : RB T H5009 m e8 d8 := (RB_fr w4985 gm f5014 rfl h5005)
      exact WL.loc hX (by simp) (next T H5009 ⟨⟨w5013, g0, gx, gm, go, by omega, by omega⟩, ⟨_, tc, tm, cu, dr, _, _, _, _, _, ce8, q5027, gtc, h5035, q5029, gtm, h5036, q5031, gcu, q5033, gdr, h5037, h5038, h5039, h5040, h5041, hC1, hC2, h5042, h5048, (h5043).1, (h5047).1, hE, hZ, (by omega), (by assumption), (by omega), (by first | assumption | exact SG_0), q5045, gce8, h5034, h5046, a5019, gm⟩, by omega, by omega⟩ (by omega) (by omega))
    · exfalso
      omega
  · refine wl_of hX hb cL_1280 (rw_iconst (pc' := 1281) rfl ?_)
    refine wl_of hX hb cL_1281 (rw_goto (p1 := 1285) (by decide) ?_)
    obtain ⟨B, tc, tm, cu, dr, C8, e8, d8, n8, g8, ce8, e0, gtc, htc, em, gtm, htm, ecu, gcu, edr, gdr, hcu, hdr, hdec, hded, hsp, hC1, hC2, hcu8, hrb8, hcg8, hmn8, hE, hZ, hn8, hXA, hV8, hSG, ece8, gce8, hcen8, hhdr8, hknn8, -⟩ := hXI
    have hN3 := RB_n3 hrb8
    have hE13 : ∀ h : Nat, h < 24 → 0 ≤ e8 13 h ∧ e8 13 h ≤ 100 := fun k hk => by
      obtain ⟨s, h1, h2, h3⟩ := hcu8.1.2.2.1
      exact ⟨(h3 k hk).1, (h3 k hk).2.1⟩
    have hXW := hXA.1
    have hXN := hXA.2
    have hE0 : e8 0 3 = d8 0 3 ∧ e8 0 0 = d8 0 0 := by
      have h := hE 0 (by decide)
      exact ⟨congrFun h 3, congrFun h 0⟩
    have u5049 := CU_k hcu8
    have h5050 : CY T H cu (d8 0 3) g8 (H cu 17) := ⟨hcg8, rfl⟩
    have h5051 : RY T H m (d8 0 3) g8 (H m 32) := ⟨hmn8, rfl⟩
    obtain ⟨t9, ht9⟩ : ∃ t : Int, t = H x 9 := ⟨_, rfl⟩
    obtain ⟨y9, hy9⟩ : ∃ y : Int, y = 1 := ⟨_, rfl⟩
    obtain ⟨r5052, q5053, g5054⟩ := hW.ref gx (t' := 6) (n := 13) (j := 2) (p := 0) (q := 0) rfl (by decide) rfl
    refine wl_of hX hb cL_1285 (xc_V (pc' := 1288) (r := x) (as := [vI (H 0 ((i + 1).toNat)), vI 1]) (st := []) (lm_11_167) rfl rfl (Nat.le_of_ble_eq_true rfl) hW gx sh_1 (by decide) rfl (by decide) (u_146 (e := e8) (d := d8) (n := n8) hW gx ⟨by omega, by omega⟩ ⟨by decide, by decide⟩ ecu gcu q5053 g5054 ece8 gce8 (by assumption) (by assumption) (by omega) (by omega) (by omega) (by omega) hcu8 hcen8 hhdr8) (fun R5055 T5056 H5057 p5058 => ?_))
    obtain ⟨e5059, w5061, f5062, z5063, e5060, b5064, p5065⟩ := p5058
    subst e5059
    subst e5060
    show WL _ _ _ _ 1288 [(4, vI i), (3, .ref o), (2, .ref m), (1, .ref x), (0, .ref 0)] [vI z5063] _ H5057
    refine wl_of hX hb cL_1288 (rw_pop (pc' := 1289) rfl rfl ?_)
    refine wl_of hX hb cL_1289 (rw_aload_n (pc' := 1290) (v := .ref m) rfl rfl rfl ?_)
    refine wl_of hX hb cL_1290 (rw_aload_n (pc' := 1291) (v := .ref 0) rfl rfl rfl ?_)
    refine wl_of hX hb cL_1291 (rw_iload (pc' := 1293) (z := i) rfl rfl ?_)
    refine wl_of hX hb cL_1293 (rw_iconst (pc' := 1294) rfl ?_)
    refine wl_of hX hb cL_1294 (rw_iadd (pc' := 1295) rfl ?_)
    have k5069 : H5057 0 ((i + 1).toNat) = H 0 ((i + 1).toNat) := (f5062 0 ((i + 1).toNat) _ g0 (wmem_s rfl))
    refine wl_of hX hb cL_1295 (xa_I (so := 0) (pc' := 1296) (a := 0) w5061 g0 (wsh_s _) (by omega) (wty_s _ _) (by omega) (by omega) rfl (fun b5067 b5068 => ?_))
    refine wl_of hX hb cL_1296 (rw_aload_n (pc' := 1297) (v := .ref 0) rfl rfl rfl ?_)
    refine wl_of hX hb cL_1297 (rw_iload (pc' := 1299) (z := i) rfl rfl ?_)
    refine wl_of hX hb cL_1299 (rw_iconst (pc' := 1300) rfl ?_)
    refine wl_of hX hb cL_1300 (rw_iadd (pc' := 1301) rfl ?_)
    have k5072 : H5057 0 ((i + 2).toNat) = H 0 ((i + 2).toNat) := (f5062 0 ((i + 2).toNat) _ g0 (wmem_s rfl))
    refine wl_of hX hb cL_1301 (xa_I (so := 0) (pc' := 1302) (a := 0) w5061 g0 (wsh_s _) (by omega) (wty_s _ _) (by omega) (by omega) rfl (fun b5070 b5071 => ?_))
    refine wl_of hX hb cL_1302 (rw_if_eq (p1 := 1309) (p2 := 1305) (by decide) rfl ⟨by omega, by omega⟩ (fun c5073 => ?_) (fun c5073 => ?_))
    · refine wl_of hX hb cL_1309 (rw_iconst (pc' := 1310) rfl ?_)
      have k5074 : wKI H5057 m = wKI H m := (wKI_fr hW gm f5062 rfl)
      have k5075 : H5057 x 9 = H x 9 := (f5062 x 9 _ gx rfl)
      have k5076 : H5057 m 6 = H m 6 := (f5062 m 6 _ gm rfl)
      have k5077 : H5057 x 11 = H x 11 := (f5062 x 11 _ gx rfl)
      have k5078 : H5057 m 13 = H m 13 := (f5062 m 13 _ gm rfl)
      have k5079 : H5057 x 8 = H x 8 := (f5062 x 8 _ gx rfl)
      have k5080 : H5057 m 3 = H m 3 := (f5062 m 3 _ gm rfl)
      rw [show H5057 0 ((i + 1).toNat) = H 0 ((i + 1).toNat) by omega]
      have h5081 : RB T H5057 m e8 d8 := (RB_fr hW gm f5062 rfl hrb8)
      have h5082 : KNN T H5057 m e8 d8 := (KNN_fr hW gm f5062 rfl hknn8)
      refine wl_of hX hb cL_1310 (xc_V (pc' := 1313) (r := m) (as := [vI (H 0 ((i + 1).toNat)), vI 0]) (st := []) (lm_11_170) rfl rfl (Nat.le_of_ble_eq_true rfl) w5061 gm sh_42 (by decide) rfl (by decide) (u_279 (e := e8) (d := d8) w5061 gm ⟨by omega, by omega⟩ ⟨by decide, by decide⟩ (by omega) (by assumption) (by assumption) (by assumption) (by assumption) h5081 h5082) (fun R5083 T5084 H5085 p5086 => ?_))
      obtain ⟨e5087, w5089, f5090, z5091, e5088, b5092, p5093⟩ := p5086
      subst e5087
      subst e5088
      obtain ⟨a5094, a5095⟩ := p5093
      show WL _ _ _ _ 1313 [(4, vI i), (3, .ref o), (2, .ref m), (1, .ref x), (0, .ref 0)] [vI z5091] _ H5085
      refine wl_of hX hb cL_1313 (rw_pop (pc' := 1314) rfl rfl ?_)
      refine wl_of hX hb cL_1314 (rw_goto (p1 := 1654) (by decide) ?_)
      have k5096 : H5085 x 9 = H5057 x 9 := (f5090 x 9 _ gx rfl)
      have k5097 : H5085 m 6 = H5057 m 6 := (f5090 m 6 _ gm rfl)
      have k5098 : H5085 x 11 = H5057 x 11 := (f5090 x 11 _ gx rfl)
      have k5099 : H5085 m 13 = H5057 m 13 := (f5090 m 13 _ gm rfl)
      have k5100 : H5085 x 8 = H5057 x 8 := (f5090 x 8 _ gx rfl)
      have k5101 : H5085 m 3 = H5057 m 3 := (f5090 m 3 _ gm rfl)
      have k5102 : H5085 x 0 = H x 0 := ((f5090 x 0 _ gx rfl).trans (f5062 x 0 _ gx rfl))
      have q5103 : H5085 x 0 = (tc : Int) := k5102.trans e0
      have k5104 : H5085 m 5 = H m 5 := ((f5090 m 5 _ gm rfl).trans (f5062 m 5 _ gm rfl))
      have q5105 : H5085 m 5 = (tm : Int) := k5104.trans em
      have k5106 : H5085 x 6 = H x 6 := ((f5090 x 6 _ gx rfl).trans (f5062 x 6 _ gx rfl))
      have q5107 : H5085 x 6 = (cu : Int) := k5106.trans ecu
      have k5108 : H5085 x 7 = H x 7 := ((f5090 x 7 _ gx rfl).trans (f5062 x 7 _ gx rfl))
      have q5109 : H5085 x 7 = (dr : Int) := k5108.trans edr
      have h5110 : CEN T H5085 ce8 e8 d8 := (CEN_fr w5061 gce8 f5090 rfl p5065)
      have h5111 : TP T H5085 tc B := (TP_fr w5061 gtc f5090 rfl (TP_fr hW gtc f5062 rfl htc))
      have h5112 : TM T H5085 tm B := (TM_fr w5061 gtm f5090 rfl (TM_fr hW gtm f5062 rfl htm))
      have h5113 : DD T H5085 cu  := (DD_fr w5061 gcu f5090 rfl (DD_fr hW gcu f5062 rfl hcu))
      have h5114 : DD T H5085 dr  := (DD_fr w5061 gdr f5090 rfl (DD_fr hW gdr f5062 rfl hdr))
      have h5115 : DE T H5085 cu  := (DE_fr w5061 gcu f5090 rfl (DE_fr hW gcu f5062 rfl hdec))
      have h5116 : DE T H5085 dr  := (DE_fr w5061 gdr f5090 rfl (DE_fr hW gdr f5062 rfl hded))
      have h5117 : SP T H5085 x C8 := (SP_fr w5061 gx f5090 rfl (SP_fr hW gx f5062 rfl hsp))
      have h5118 : CU T H5085 cu e8 d8 n8 := (CU_fr w5061 gcu f5090 rfl (CU_fr hW gcu f5062 rfl hcu8))
      have h5119 : CY T H5085 cu (d8 0 3) g8 (H cu 17) := (CY_fr w5061 gcu f5090 rfl (CY_fr hW gcu f5062 rfl h5050))
      have k5120 : H5085 x 3 = H x 3 := ((f5090 x 3 _ gx rfl).trans (f5062 x 3 _ gx rfl))
      have q5121 : H5085 x 3 = (ce8 : Int) := k5120.trans ece8
      have h5122 : HDR T H5085 ce8  := (HDR_fr w5061 gce8 f5090 rfl (HDR_fr hW gce8 f5062 rfl hhdr8))
      have h5123 : RY T H5085 m (d8 0 3) g8 (H m 32) := (RY_fr w5061 gm f5090 rfl (RY_fr hW gm f5062 rfl h5051))
      have h5124 : RB T H5085 m e8 d8 := (RB_fr w5061 gm f5090 rfl h5081)
      exact WL.loc hX (by simp) (next T H5085 ⟨⟨w5089, g0, gx, gm, go, by omega, by omega⟩, ⟨_, tc, tm, cu, dr, _, _, _, _, _, ce8, q5103, gtc, h5111, q5105, gtm, h5112, q5107, gcu, q5109, gdr, h5113, h5114, h5115, h5116, h5117, hC1, hC2, h5118, h5124, (h5119).1, (h5123).1, hE, hZ, (by omega), (by assumption), (by omega), (by first | assumption | exact SG_0), q5121, gce8, h5110, h5122, a5095, gm⟩, by omega, by omega⟩ (by omega) (by omega))
    · refine wl_of hX hb cL_1305 (rw_iconst (pc' := 1306) rfl ?_)
      refine wl_of hX hb cL_1306 (rw_goto (p1 := 1310) (by decide) ?_)
      have k5125 : wKI H5057 m = wKI H m := (wKI_fr hW gm f5062 rfl)
      have k5126 : H5057 x 9 = H x 9 := (f5062 x 9 _ gx rfl)
      have k5127 : H5057 m 6 = H m 6 := (f5062 m 6 _ gm rfl)
      have k5128 : H5057 x 11 = H x 11 := (f5062 x 11 _ gx rfl)
      have k5129 : H5057 m 13 = H m 13 := (f5062 m 13 _ gm rfl)
      have k5130 : H5057 x 8 = H x 8 := (f5062 x 8 _ gx rfl)
      have k5131 : H5057 m 3 = H m 3 := (f5062 m 3 _ gm rfl)
      rw [show H5057 0 ((i + 1).toNat) = H 0 ((i + 1).toNat) by omega]
      have h5132 : RB T H5057 m e8 d8 := (RB_fr hW gm f5062 rfl hrb8)
      have h5133 : KNN T H5057 m e8 d8 := (KNN_fr hW gm f5062 rfl hknn8)
      refine wl_of hX hb cL_1310 (xc_V (pc' := 1313) (r := m) (as := [vI (H 0 ((i + 1).toNat)), vI 1]) (st := []) (lm_11_170) rfl rfl (Nat.le_of_ble_eq_true rfl) w5061 gm sh_42 (by decide) rfl (by decide) (u_279 (e := e8) (d := d8) w5061 gm ⟨by omega, by omega⟩ ⟨by decide, by decide⟩ (by omega) (by assumption) (by assumption) (by assumption) (by assumption) h5132 h5133) (fun R5134 T5135 H5136 p5137 => ?_))
      obtain ⟨e5138, w5140, f5141, z5142, e5139, b5143, p5144⟩ := p5137
      subst e5138
      subst e5139
      obtain ⟨a5145, a5146⟩ := p5144
      show WL _ _ _ _ 1313 [(4, vI i), (3, .ref o), (2, .ref m), (1, .ref x), (0, .ref 0)] [vI z5142] _ H5136
      refine wl_of hX hb cL_1313 (rw_pop (pc' := 1314) rfl rfl ?_)
      refine wl_of hX hb cL_1314 (rw_goto (p1 := 1654) (by decide) ?_)
      have k5147 : H5136 x 9 = H5057 x 9 := (f5141 x 9 _ gx rfl)
      have k5148 : H5136 m 6 = H5057 m 6 := (f5141 m 6 _ gm rfl)
      have k5149 : H5136 x 11 = H5057 x 11 := (f5141 x 11 _ gx rfl)
      have k5150 : H5136 m 13 = H5057 m 13 := (f5141 m 13 _ gm rfl)
      have k5151 : H5136 x 8 = H5057 x 8 := (f5141 x 8 _ gx rfl)
      have k5152 : H5136 m 3 = H5057 m 3 := (f5141 m 3 _ gm rfl)
      have k5153 : H5136 x 0 = H x 0 := ((f5141 x 0 _ gx rfl).trans (f5062 x 0 _ gx rfl))
      have q5154 : H5136 x 0 = (tc : Int) := k5153.trans e0
      have k5155 : H5136 m 5 = H m 5 := ((f5141 m 5 _ gm rfl).trans (f5062 m 5 _ gm rfl))
      have q5156 : H5136 m 5 = (tm : Int) := k5155.trans em
      have k5157 : H5136 x 6 = H x 6 := ((f5141 x 6 _ gx rfl).trans (f5062 x 6 _ gx rfl))
      have q5158 : H5136 x 6 = (cu : Int) := k5157.trans ecu
      have k5159 : H5136 x 7 = H x 7 := ((f5141 x 7 _ gx rfl).trans (f5062 x 7 _ gx rfl))
      have q5160 : H5136 x 7 = (dr : Int) := k5159.trans edr
      have h5161 : CEN T H5136 ce8 e8 d8 := (CEN_fr w5061 gce8 f5141 rfl p5065)
      have h5162 : TP T H5136 tc B := (TP_fr w5061 gtc f5141 rfl (TP_fr hW gtc f5062 rfl htc))
      have h5163 : TM T H5136 tm B := (TM_fr w5061 gtm f5141 rfl (TM_fr hW gtm f5062 rfl htm))
      have h5164 : DD T H5136 cu  := (DD_fr w5061 gcu f5141 rfl (DD_fr hW gcu f5062 rfl hcu))
      have h5165 : DD T H5136 dr  := (DD_fr w5061 gdr f5141 rfl (DD_fr hW gdr f5062 rfl hdr))
      have h5166 : DE T H5136 cu  := (DE_fr w5061 gcu f5141 rfl (DE_fr hW gcu f5062 rfl hdec))
      have h5167 : DE T H5136 dr  := (DE_fr w5061 gdr f5141 rfl (DE_fr hW gdr f5062 rfl hded))
      have h5168 : SP T H5136 x C8 := (SP_fr w5061 gx f5141 rfl (SP_fr hW gx f5062 rfl hsp))
      have h5169 : CU T H5136 cu e8 d8 n8 := (CU_fr w5061 gcu f5141 rfl (CU_fr hW gcu f5062 rfl hcu8))
      have h5170 : CY T H5136 cu (d8 0 3) g8 (H cu 17) := (CY_fr w5061 gcu f5141 rfl (CY_fr hW gcu f5062 rfl h5050))
      have k5171 : H5136 x 3 = H x 3 := ((f5141 x 3 _ gx rfl).trans (f5062 x 3 _ gx rfl))
      have q5172 : H5136 x 3 = (ce8 : Int) := k5171.trans ece8
      have h5173 : HDR T H5136 ce8  := (HDR_fr w5061 gce8 f5141 rfl (HDR_fr hW gce8 f5062 rfl hhdr8))
      have h5174 : RY T H5136 m (d8 0 3) g8 (H m 32) := (RY_fr w5061 gm f5141 rfl (RY_fr hW gm f5062 rfl h5051))
      have h5175 : RB T H5136 m e8 d8 := (RB_fr w5061 gm f5141 rfl h5132)
      exact WL.loc hX (by simp) (next T H5136 ⟨⟨w5140, g0, gx, gm, go, by omega, by omega⟩, ⟨_, tc, tm, cu, dr, _, _, _, _, _, ce8, q5154, gtc, h5162, q5156, gtm, h5163, q5158, gcu, q5160, gdr, h5164, h5165, h5166, h5167, h5168, hC1, hC2, h5169, h5175, (h5170).1, (h5174).1, hE, hZ, (by omega), (by assumption), (by omega), (by first | assumption | exact SG_0), q5172, gce8, h5161, h5173, a5146, gm⟩, by omega, by omega⟩ (by omega) (by omega))
