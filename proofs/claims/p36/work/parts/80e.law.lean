/-! THE LAW, GONE ON WITH (own work) -/
set_option maxHeartbeats 4000000 in
theorem wl_c30 {kt : Nat → Option mc_E} {CB SB : Nat} {X : mc_S → Prop} {T : wq_T} {H : wq_H} {Len x m o : Nat} {i : Int} (hX : wlX kt CB SB X) (hb : T.2.1 ≤ CB ∧ T.2.2.1 ≤ SB) (hI : wlJ Len x m o T H) (hL : Len ≤ 3072) (hi : 0 ≤ i ∧ i + 6 ≤ Len) (hb2 : T.2.1 + 20 ≤ CB ∧ T.2.2.1 + 500 ≤ SB)  (next : ∀ T' H', wlJ Len x m o T' H' → T'.2.1 ≤ T.2.1 + 20 → T'.2.2.1 ≤ T.2.2.1 + 500 → WL kt CB SB X 1653 (wlL i x m o) [] T' H') : WL kt CB SB X 1162 (wlL i x m o) [] T H := by
  obtain ⟨⟨hW, g0, gx, gm, go, hK, hr⟩, hXI, hY1, hY2⟩ := hI
  refine wl_of hX hb cL_1162 (rw_aload_n (pc' := 1163) (v := .ref x) rfl rfl rfl ?_)
  obtain ⟨B, tc, tm, cu, dr, C8, e8, d8, n8, g8, ce8, e0, gtc, htc, em, gtm, htm, ecu, gcu, edr, gdr, hcu, hdr, hdec, hded, hsp, hC1, hC2, hcu8, hrb8, hcg8, hmn8, hE, hZ, hn8, hXA, hV8, hSG, ece8, gce8, hcen8, hhdr8, hknn8, -⟩ := hXI
  have hN3 := RB_n3 hrb8
  have hE13 : ∀ h : Nat, h < 24 → 0 ≤ e8 13 h ∧ e8 13 h ≤ 100 := fun k hk => by
    obtain ⟨s, h1, h2, h3⟩ := hcu8.1.2.2.1
    exact ⟨(h3 k hk).1, (h3 k hk).2.1⟩
  have hXW := hXA.1
  have hXN := hXA.2
  have hE0 : e8 0 3 = d8 0 3 ∧ e8 0 0 = d8 0 0 := by
    have h := hE 0 (by decide)
    exact ⟨congrFun h 3, congrFun h 0⟩
  have u4471 := CU_k hcu8
  have h4472 : CY T H cu (d8 0 3) g8 (H cu 17) := ⟨hcg8, rfl⟩
  have h4473 : RY T H m (d8 0 3) g8 (H m 32) := ⟨hmn8, rfl⟩
  obtain ⟨t9, ht9⟩ : ∃ t : Int, t = H x 9 := ⟨_, rfl⟩
  obtain ⟨r4474, q4475, g4476⟩ := hW.ref gx (t' := 6) (n := 13) (j := 2) (p := 0) (q := 0) rfl (by decide) rfl
  refine wl_of hX hb cL_1163 (xc_V (pc' := 1166) (r := x) (as := []) (st := []) (lm_11_147) rfl rfl (Nat.le_of_ble_eq_true rfl) hW gx sh_1 (by decide) rfl (by decide) (u_120 (e := e8) (d := d8) (n := n8) hW gx ecu gcu q4475 g4476 ece8 gce8 (by assumption) (by assumption) (by omega) (by omega) (by omega) (by omega) hcu8 hcen8 hhdr8) (fun R4477 T4478 H4479 p4480 => ?_))
  obtain ⟨e4481, w4483, f4484, z4485, e4482, b4486, p4487⟩ := p4480
  subst e4481
  subst e4482
  show WL _ _ _ _ 1166 [(4, vI i), (3, .ref o), (2, .ref m), (1, .ref x), (0, .ref 0)] [vI z4485] _ H4479
  refine wl_of hX hb cL_1166 (rw_pop (pc' := 1167) rfl rfl ?_)
  refine wl_of hX hb cL_1167 (rw_aload_n (pc' := 1168) (v := .ref m) rfl rfl rfl ?_)
  have k4489 : wKI H4479 m = wKI H m := (wKI_fr hW gm f4484 rfl)
  have k4490 : H4479 x 9 = H x 9 := (f4484 x 9 _ gx rfl)
  have k4491 : H4479 m 6 = H m 6 := (f4484 m 6 _ gm rfl)
  have k4492 : H4479 x 11 = H x 11 := (f4484 x 11 _ gx rfl)
  have k4493 : H4479 m 13 = H m 13 := (f4484 m 13 _ gm rfl)
  have k4494 : H4479 x 8 = H x 8 := (f4484 x 8 _ gx rfl)
  have k4495 : H4479 m 3 = H m 3 := (f4484 m 3 _ gm rfl)
  have h4496 : RB T H4479 m e8 d8 := (RB_fr hW gm f4484 rfl hrb8)
  have h4497 : KNN T H4479 m e8 d8 := (KNN_fr hW gm f4484 rfl hknn8)
  refine wl_of hX hb cL_1168 (xc_V (pc' := 1171) (r := m) (as := []) (st := []) (lm_11_150) rfl rfl (Nat.le_of_ble_eq_true rfl) w4483 gm sh_42 (by decide) rfl (by decide) (u_266 (e := e8) (d := d8) w4483 gm (by omega) (by assumption) (by assumption) (by assumption) (by assumption) h4496 h4497) (fun R4498 T4499 H4500 p4501 => ?_))
  obtain ⟨e4502, w4504, f4505, z4506, e4503, b4507, p4508⟩ := p4501
  subst e4502
  subst e4503
  obtain ⟨a4509, a4510⟩ := p4508
  show WL _ _ _ _ 1171 [(4, vI i), (3, .ref o), (2, .ref m), (1, .ref x), (0, .ref 0)] [vI z4506] _ H4500
  refine wl_of hX hb cL_1171 (rw_pop (pc' := 1172) rfl rfl ?_)
  refine wl_of hX hb cL_1172 (rw_goto (p1 := 1653) (by decide) ?_)
  have k4511 : H4500 x 9 = H4479 x 9 := (f4505 x 9 _ gx rfl)
  have k4512 : H4500 m 6 = H4479 m 6 := (f4505 m 6 _ gm rfl)
  have k4513 : H4500 x 11 = H4479 x 11 := (f4505 x 11 _ gx rfl)
  have k4514 : H4500 m 13 = H4479 m 13 := (f4505 m 13 _ gm rfl)
  have k4515 : H4500 x 8 = H4479 x 8 := (f4505 x 8 _ gx rfl)
  have k4516 : H4500 m 3 = H4479 m 3 := (f4505 m 3 _ gm rfl)
  have k4517 : H4500 x 0 = H x 0 := ((f4505 x 0 _ gx rfl).trans (f4484 x 0 _ gx rfl))
  have q4518 : H4500 x 0 = (tc : Int) := k4517.trans e0
  have k4519 : H4500 m 5 = H m 5 := ((f4505 m 5 _ gm rfl).trans (f4484 m 5 _ gm rfl))
  have q4520 : H4500 m 5 = (tm : Int) := k4519.trans em
  have k4521 : H4500 x 6 = H x 6 := ((f4505 x 6 _ gx rfl).trans (f4484 x 6 _ gx rfl))
  have q4522 : H4500 x 6 = (cu : Int) := k4521.trans ecu
  have k4523 : H4500 x 7 = H x 7 := ((f4505 x 7 _ gx rfl).trans (f4484 x 7 _ gx rfl))
  have q4524 : H4500 x 7 = (dr : Int) := k4523.trans edr
  have h4525 : CEN T H4500 ce8 e8 d8 := (CEN_fr w4483 gce8 f4505 rfl p4487)
  have h4526 : TP T H4500 tc B := (TP_fr w4483 gtc f4505 rfl (TP_fr hW gtc f4484 rfl htc))
  have h4527 : TM T H4500 tm B := (TM_fr w4483 gtm f4505 rfl (TM_fr hW gtm f4484 rfl htm))
  have h4528 : DD T H4500 cu  := (DD_fr w4483 gcu f4505 rfl (DD_fr hW gcu f4484 rfl hcu))
  have h4529 : DD T H4500 dr  := (DD_fr w4483 gdr f4505 rfl (DD_fr hW gdr f4484 rfl hdr))
  have h4530 : DE T H4500 cu  := (DE_fr w4483 gcu f4505 rfl (DE_fr hW gcu f4484 rfl hdec))
  have h4531 : DE T H4500 dr  := (DE_fr w4483 gdr f4505 rfl (DE_fr hW gdr f4484 rfl hded))
  have h4532 : SP T H4500 x C8 := (SP_fr w4483 gx f4505 rfl (SP_fr hW gx f4484 rfl hsp))
  have h4533 : CU T H4500 cu e8 d8 n8 := (CU_fr w4483 gcu f4505 rfl (CU_fr hW gcu f4484 rfl hcu8))
  have h4534 : CY T H4500 cu (d8 0 3) g8 (H cu 17) := (CY_fr w4483 gcu f4505 rfl (CY_fr hW gcu f4484 rfl h4472))
  have k4535 : H4500 x 3 = H x 3 := ((f4505 x 3 _ gx rfl).trans (f4484 x 3 _ gx rfl))
  have q4536 : H4500 x 3 = (ce8 : Int) := k4535.trans ece8
  have h4537 : HDR T H4500 ce8  := (HDR_fr w4483 gce8 f4505 rfl (HDR_fr hW gce8 f4484 rfl hhdr8))
  have h4538 : RY T H4500 m (d8 0 3) g8 (H m 32) := (RY_fr w4483 gm f4505 rfl (RY_fr hW gm f4484 rfl h4473))
  have h4539 : RB T H4500 m e8 d8 := (RB_fr w4483 gm f4505 rfl h4496)
  exact WL.loc hX (by simp) (next T H4500 ⟨⟨w4504, g0, gx, gm, go, by omega, by omega⟩, ⟨_, tc, tm, cu, dr, _, _, _, _, _, ce8, q4518, gtc, h4526, q4520, gtm, h4527, q4522, gcu, q4524, gdr, h4528, h4529, h4530, h4531, h4532, hC1, hC2, h4533, h4539, (h4534).1, (h4538).1, hE, hZ, (by omega), (by assumption), (by omega), (by first | assumption | exact SG_0), q4536, gce8, h4525, h4537, a4510, gm⟩, by omega, by omega⟩ (by omega) (by omega))
set_option maxHeartbeats 4000000 in
theorem wl_c31 {kt : Nat → Option mc_E} {CB SB : Nat} {X : mc_S → Prop} {T : wq_T} {H : wq_H} {Len x m o : Nat} {i : Int} (hX : wlX kt CB SB X) (hb : T.2.1 ≤ CB ∧ T.2.2.1 ≤ SB) (hI : wlJ Len x m o T H) (hL : Len ≤ 3072) (hi : 0 ≤ i ∧ i + 6 ≤ Len) (hb2 : T.2.1 + 20 ≤ CB ∧ T.2.2.1 + 500 ≤ SB)  (next : ∀ T' H', wlJ Len x m o T' H' → T'.2.1 ≤ T.2.1 + 20 → T'.2.2.1 ≤ T.2.2.1 + 500 → WL kt CB SB X 1653 (wlL i x m o) [] T' H') : WL kt CB SB X 1175 (wlL i x m o) [] T H := by
  obtain ⟨⟨hW, g0, gx, gm, go, hK, hr⟩, hXI, hY1, hY2⟩ := hI
  refine wl_of hX hb cL_1175 (rw_aload_n (pc' := 1176) (v := .ref x) rfl rfl rfl ?_)
  refine wl_of hX hb cL_1176 (rw_aload_n (pc' := 1177) (v := .ref 0) rfl rfl rfl ?_)
  refine wl_of hX hb cL_1177 (rw_iload (pc' := 1179) (z := i) rfl rfl ?_)
  refine wl_of hX hb cL_1179 (rw_iconst (pc' := 1180) rfl ?_)
  refine wl_of hX hb cL_1180 (rw_iadd (pc' := 1181) rfl ?_)
  refine wl_of hX hb cL_1181 (xa_I (so := 0) (pc' := 1182) (a := 0) hW g0 (wsh_s _) (by omega) (wty_s _ _) (by omega) (by omega) rfl (fun b4540 b4541 => ?_))
  obtain ⟨B, tc, tm, cu, dr, C8, e8, d8, n8, g8, ce8, e0, gtc, htc, em, gtm, htm, ecu, gcu, edr, gdr, hcu, hdr, hdec, hded, hsp, hC1, hC2, hcu8, hrb8, hcg8, hmn8, hE, hZ, hn8, hXA, hV8, hSG, ece8, gce8, hcen8, hhdr8, hknn8, -⟩ := hXI
  have hN3 := RB_n3 hrb8
  have hE13 : ∀ h : Nat, h < 24 → 0 ≤ e8 13 h ∧ e8 13 h ≤ 100 := fun k hk => by
    obtain ⟨s, h1, h2, h3⟩ := hcu8.1.2.2.1
    exact ⟨(h3 k hk).1, (h3 k hk).2.1⟩
  have hXW := hXA.1
  have hXN := hXA.2
  have hE0 : e8 0 3 = d8 0 3 ∧ e8 0 0 = d8 0 0 := by
    have h := hE 0 (by decide)
    exact ⟨congrFun h 3, congrFun h 0⟩
  have u4542 := CU_k hcu8
  have h4543 : CY T H cu (d8 0 3) g8 (H cu 17) := ⟨hcg8, rfl⟩
  have h4544 : RY T H m (d8 0 3) g8 (H m 32) := ⟨hmn8, rfl⟩
  obtain ⟨t9, ht9⟩ : ∃ t : Int, t = H x 9 := ⟨_, rfl⟩
  obtain ⟨y9, hy9⟩ : ∃ y : Int, y = H 0 ((i + 1).toNat) := ⟨_, rfl⟩
  obtain ⟨r4545, q4546, g4547⟩ := hW.ref gx (t' := 6) (n := 13) (j := 2) (p := 0) (q := 0) rfl (by decide) rfl
  refine wl_of hX hb cL_1182 (xc_V (pc' := 1185) (r := x) (as := [vI (H 0 ((i + 1).toNat))]) (st := []) (lm_11_151) rfl rfl (Nat.le_of_ble_eq_true rfl) hW gx sh_1 (by decide) rfl (by decide) (u_130 (e := e8) (d := d8) (n := n8) hW gx ⟨by omega, by omega⟩ ecu gcu q4546 g4547 ece8 gce8 (by assumption) (by assumption) (by omega) (by omega) (by omega) (by omega) hcu8 hcen8 hhdr8) (fun R4548 T4549 H4550 p4551 => ?_))
  obtain ⟨e4552, w4554, f4555, z4556, e4553, b4557, p4558⟩ := p4551
  subst e4552
  subst e4553
  show WL _ _ _ _ 1185 [(4, vI i), (3, .ref o), (2, .ref m), (1, .ref x), (0, .ref 0)] [vI z4556] _ H4550
  refine wl_of hX hb cL_1185 (rw_pop (pc' := 1186) rfl rfl ?_)
  refine wl_of hX hb cL_1186 (rw_aload_n (pc' := 1187) (v := .ref m) rfl rfl rfl ?_)
  refine wl_of hX hb cL_1187 (rw_aload_n (pc' := 1188) (v := .ref 0) rfl rfl rfl ?_)
  refine wl_of hX hb cL_1188 (rw_iload (pc' := 1190) (z := i) rfl rfl ?_)
  refine wl_of hX hb cL_1190 (rw_iconst (pc' := 1191) rfl ?_)
  refine wl_of hX hb cL_1191 (rw_iadd (pc' := 1192) rfl ?_)
  have k4562 : H4550 0 ((i + 1).toNat) = H 0 ((i + 1).toNat) := (f4555 0 ((i + 1).toNat) _ g0 (wmem_s rfl))
  refine wl_of hX hb cL_1192 (xa_I (so := 0) (pc' := 1193) (a := 0) w4554 g0 (wsh_s _) (by omega) (wty_s _ _) (by omega) (by omega) rfl (fun b4560 b4561 => ?_))
  have k4563 : wKI H4550 m = wKI H m := (wKI_fr hW gm f4555 rfl)
  have k4564 : H4550 x 9 = H x 9 := (f4555 x 9 _ gx rfl)
  have k4565 : H4550 m 6 = H m 6 := (f4555 m 6 _ gm rfl)
  have k4566 : H4550 x 11 = H x 11 := (f4555 x 11 _ gx rfl)
  have k4567 : H4550 m 13 = H m 13 := (f4555 m 13 _ gm rfl)
  have k4568 : H4550 x 8 = H x 8 := (f4555 x 8 _ gx rfl)
  have k4569 : H4550 m 3 = H m 3 := (f4555 m 3 _ gm rfl)
  rw [show H4550 0 ((i + 1).toNat) = H 0 ((i + 1).toNat) by omega]
  have h4570 : RB T H4550 m e8 d8 := (RB_fr hW gm f4555 rfl hrb8)
  have h4571 : KNN T H4550 m e8 d8 := (KNN_fr hW gm f4555 rfl hknn8)
  refine wl_of hX hb cL_1193 (xc_V (pc' := 1196) (r := m) (as := [vI (H 0 ((i + 1).toNat))]) (st := []) (lm_11_154) rfl rfl (Nat.le_of_ble_eq_true rfl) w4554 gm sh_42 (by decide) rfl (by decide) (u_271 (e := e8) (d := d8) w4554 gm ⟨by omega, by omega⟩ (by omega) (by assumption) (by assumption) (by assumption) (by assumption) h4570 h4571) (fun R4572 T4573 H4574 p4575 => ?_))
  obtain ⟨e4576, w4578, f4579, z4580, e4577, b4581, p4582⟩ := p4575
  subst e4576
  subst e4577
  obtain ⟨a4583, a4584⟩ := p4582
  show WL _ _ _ _ 1196 [(4, vI i), (3, .ref o), (2, .ref m), (1, .ref x), (0, .ref 0)] [vI z4580] _ H4574
  refine wl_of hX hb cL_1196 (rw_pop (pc' := 1197) rfl rfl ?_)
  refine wl_of hX hb cL_1197 (rw_goto (p1 := 1653) (by decide) ?_)
  have k4585 : H4574 x 9 = H4550 x 9 := (f4579 x 9 _ gx rfl)
  have k4586 : H4574 m 6 = H4550 m 6 := (f4579 m 6 _ gm rfl)
  have k4587 : H4574 x 11 = H4550 x 11 := (f4579 x 11 _ gx rfl)
  have k4588 : H4574 m 13 = H4550 m 13 := (f4579 m 13 _ gm rfl)
  have k4589 : H4574 x 8 = H4550 x 8 := (f4579 x 8 _ gx rfl)
  have k4590 : H4574 m 3 = H4550 m 3 := (f4579 m 3 _ gm rfl)
  have k4591 : H4574 x 0 = H x 0 := ((f4579 x 0 _ gx rfl).trans (f4555 x 0 _ gx rfl))
  have q4592 : H4574 x 0 = (tc : Int) := k4591.trans e0
  have k4593 : H4574 m 5 = H m 5 := ((f4579 m 5 _ gm rfl).trans (f4555 m 5 _ gm rfl))
  have q4594 : H4574 m 5 = (tm : Int) := k4593.trans em
  have k4595 : H4574 x 6 = H x 6 := ((f4579 x 6 _ gx rfl).trans (f4555 x 6 _ gx rfl))
  have q4596 : H4574 x 6 = (cu : Int) := k4595.trans ecu
  have k4597 : H4574 x 7 = H x 7 := ((f4579 x 7 _ gx rfl).trans (f4555 x 7 _ gx rfl))
  have q4598 : H4574 x 7 = (dr : Int) := k4597.trans edr
  have h4599 : CEN T H4574 ce8 e8 d8 := (CEN_fr w4554 gce8 f4579 rfl p4558)
  have h4600 : TP T H4574 tc B := (TP_fr w4554 gtc f4579 rfl (TP_fr hW gtc f4555 rfl htc))
  have h4601 : TM T H4574 tm B := (TM_fr w4554 gtm f4579 rfl (TM_fr hW gtm f4555 rfl htm))
  have h4602 : DD T H4574 cu  := (DD_fr w4554 gcu f4579 rfl (DD_fr hW gcu f4555 rfl hcu))
  have h4603 : DD T H4574 dr  := (DD_fr w4554 gdr f4579 rfl (DD_fr hW gdr f4555 rfl hdr))
  have h4604 : DE T H4574 cu  := (DE_fr w4554 gcu f4579 rfl (DE_fr hW gcu f4555 rfl hdec))
  have h4605 : DE T H4574 dr  := (DE_fr w4554 gdr f4579 rfl (DE_fr hW gdr f4555 rfl hded))
  have h4606 : SP T H4574 x C8 := (SP_fr w4554 gx f4579 rfl (SP_fr hW gx f4555 rfl hsp))
  have h4607 : CU T H4574 cu e8 d8 n8 := (CU_fr w4554 gcu f4579 rfl (CU_fr hW gcu f4555 rfl hcu8))
  have h4608 : CY T H4574 cu (d8 0 3) g8 (H cu 17) := (CY_fr w4554 gcu f4579 rfl (CY_fr hW gcu f4555 rfl h4543))
  have k4609 : H4574 x 3 = H x 3 := ((f4579 x 3 _ gx rfl).trans (f4555 x 3 _ gx rfl))
  have q4610 : H4574 x 3 = (ce8 : Int) := k4609.trans ece8
  have h4611 : HDR T H4574 ce8  := (HDR_fr w4554 gce8 f4579 rfl (HDR_fr hW gce8 f4555 rfl hhdr8))
  have h4612 : RY T H4574 m (d8 0 3) g8 (H m 32) := (RY_fr w4554 gm f4579 rfl (RY_fr hW gm f4555 rfl h4544))
  have h4613 : RB T H4574 m e8 d8 := (RB_fr w4554 gm f4579 rfl h4570)
  exact WL.loc hX (by simp) (next T H4574 ⟨⟨w4578, g0, gx, gm, go, by omega, by omega⟩, ⟨_, tc, tm, cu, dr, _, _, _, _, _, ce8, q4592, gtc, h4600, q4594, gtm, h4601, q4596, gcu, q4598, gdr, h4602, h4603, h4604, h4605, h4606, hC1, hC2, h4607, h4613, (h4608).1, (h4612).1, hE, hZ, (by omega), (by assumption), (by omega), (by first | assumption | exact SG_0), q4610, gce8, h4599, h4611, a4584, gm⟩, by omega, by omega⟩ (by omega) (by omega))
set_option maxHeartbeats 4000000 in
theorem wl_c32 {kt : Nat → Option mc_E} {CB SB : Nat} {X : mc_S → Prop} {T : wq_T} {H : wq_H} {Len x m o : Nat} {i : Int} (hX : wlX kt CB SB X) (hb : T.2.1 ≤ CB ∧ T.2.2.1 ≤ SB) (hI : wlJ Len x m o T H) (hL : Len ≤ 3072) (hi : 0 ≤ i ∧ i + 6 ≤ Len) (hb2 : T.2.1 + 20 ≤ CB ∧ T.2.2.1 + 500 ≤ SB)  (next : ∀ T' H', wlJ Len x m o T' H' → T'.2.1 ≤ T.2.1 + 20 → T'.2.2.1 ≤ T.2.2.1 + 500 → WL kt CB SB X 1653 (wlL i x m o) [] T' H') : WL kt CB SB X 1200 (wlL i x m o) [] T H := by
  obtain ⟨⟨hW, g0, gx, gm, go, hK, hr⟩, hXI, hY1, hY2⟩ := hI
  refine wl_of hX hb cL_1200 (rw_aload_n (pc' := 1201) (v := .ref x) rfl rfl rfl ?_)
  refine wl_of hX hb cL_1201 (rw_aload_n (pc' := 1202) (v := .ref 0) rfl rfl rfl ?_)
  refine wl_of hX hb cL_1202 (rw_iload (pc' := 1204) (z := i) rfl rfl ?_)
  refine wl_of hX hb cL_1204 (rw_iconst (pc' := 1205) rfl ?_)
  refine wl_of hX hb cL_1205 (rw_iadd (pc' := 1206) rfl ?_)
  refine wl_of hX hb cL_1206 (xa_I (so := 0) (pc' := 1207) (a := 0) hW g0 (wsh_s _) (by omega) (wty_s _ _) (by omega) (by omega) rfl (fun b4614 b4615 => ?_))
  obtain ⟨B, tc, tm, cu, dr, C8, e8, d8, n8, g8, ce8, e0, gtc, htc, em, gtm, htm, ecu, gcu, edr, gdr, hcu, hdr, hdec, hded, hsp, hC1, hC2, hcu8, hrb8, hcg8, hmn8, hE, hZ, hn8, hXA, hV8, hSG, ece8, gce8, hcen8, hhdr8, hknn8, -⟩ := hXI
  have hN3 := RB_n3 hrb8
  have hE13 : ∀ h : Nat, h < 24 → 0 ≤ e8 13 h ∧ e8 13 h ≤ 100 := fun k hk => by
    obtain ⟨s, h1, h2, h3⟩ := hcu8.1.2.2.1
    exact ⟨(h3 k hk).1, (h3 k hk).2.1⟩
  have hXW := hXA.1
  have hXN := hXA.2
  have hE0 : e8 0 3 = d8 0 3 ∧ e8 0 0 = d8 0 0 := by
    have h := hE 0 (by decide)
    exact ⟨congrFun h 3, congrFun h 0⟩
  have u4616 := CU_k hcu8
  have h4617 : CY T H cu (d8 0 3) g8 (H cu 17) := ⟨hcg8, rfl⟩
  have h4618 : RY T H m (d8 0 3) g8 (H m 32) := ⟨hmn8, rfl⟩
  obtain ⟨t9, ht9⟩ : ∃ t : Int, t = H x 9 := ⟨_, rfl⟩
  obtain ⟨y9, hy9⟩ : ∃ y : Int, y = H 0 ((i + 1).toNat) := ⟨_, rfl⟩
  obtain ⟨r4619, q4620, g4621⟩ := hW.ref gx (t' := 6) (n := 13) (j := 2) (p := 0) (q := 0) rfl (by decide) rfl
  refine wl_of hX hb cL_1207 (xc_V (pc' := 1210) (r := x) (as := [vI (H 0 ((i + 1).toNat))]) (st := []) (lm_11_155) rfl rfl (Nat.le_of_ble_eq_true rfl) hW gx sh_1 (by decide) rfl (by decide) (u_132 (e := e8) (d := d8) (n := n8) hW gx ⟨by omega, by omega⟩ ecu gcu q4620 g4621 ece8 gce8 (by assumption) (by assumption) (by omega) (by omega) (by omega) (by omega) hcu8 hcen8 hhdr8) (fun R4622 T4623 H4624 p4625 => ?_))
  obtain ⟨e4626, w4628, f4629, z4630, e4627, b4631, p4632⟩ := p4625
  subst e4626
  subst e4627
  show WL _ _ _ _ 1210 [(4, vI i), (3, .ref o), (2, .ref m), (1, .ref x), (0, .ref 0)] [vI z4630] _ H4624
  refine wl_of hX hb cL_1210 (rw_pop (pc' := 1211) rfl rfl ?_)
  refine wl_of hX hb cL_1211 (rw_aload_n (pc' := 1212) (v := .ref m) rfl rfl rfl ?_)
  refine wl_of hX hb cL_1212 (rw_aload_n (pc' := 1213) (v := .ref 0) rfl rfl rfl ?_)
  refine wl_of hX hb cL_1213 (rw_iload (pc' := 1215) (z := i) rfl rfl ?_)
  refine wl_of hX hb cL_1215 (rw_iconst (pc' := 1216) rfl ?_)
  refine wl_of hX hb cL_1216 (rw_iadd (pc' := 1217) rfl ?_)
  have k4636 : H4624 0 ((i + 1).toNat) = H 0 ((i + 1).toNat) := (f4629 0 ((i + 1).toNat) _ g0 (wmem_s rfl))
  refine wl_of hX hb cL_1217 (xa_I (so := 0) (pc' := 1218) (a := 0) w4628 g0 (wsh_s _) (by omega) (wty_s _ _) (by omega) (by omega) rfl (fun b4634 b4635 => ?_))
  have k4637 : wKI H4624 m = wKI H m := (wKI_fr hW gm f4629 rfl)
  have k4638 : H4624 x 9 = H x 9 := (f4629 x 9 _ gx rfl)
  have k4639 : H4624 m 6 = H m 6 := (f4629 m 6 _ gm rfl)
  have k4640 : H4624 x 11 = H x 11 := (f4629 x 11 _ gx rfl)
  have k4641 : H4624 m 13 = H m 13 := (f4629 m 13 _ gm rfl)
  have k4642 : H4624 x 8 = H x 8 := (f4629 x 8 _ gx rfl)
  have k4643 : H4624 m 3 = H m 3 := (f4629 m 3 _ gm rfl)
  rw [show H4624 0 ((i + 1).toNat) = H 0 ((i + 1).toNat) by omega]
  have h4644 : RB T H4624 m e8 d8 := (RB_fr hW gm f4629 rfl hrb8)
  have h4645 : KNN T H4624 m e8 d8 := (KNN_fr hW gm f4629 rfl hknn8)
  refine wl_of hX hb cL_1218 (xc_V (pc' := 1221) (r := m) (as := [vI (H 0 ((i + 1).toNat))]) (st := []) (lm_11_158) rfl rfl (Nat.le_of_ble_eq_true rfl) w4628 gm sh_42 (by decide) rfl (by decide) (u_272 (e := e8) (d := d8) w4628 gm ⟨by omega, by omega⟩ (by omega) (by assumption) (by assumption) (by assumption) (by assumption) h4644 h4645) (fun R4646 T4647 H4648 p4649 => ?_))
  obtain ⟨e4650, w4652, f4653, z4654, e4651, b4655, p4656⟩ := p4649
  subst e4650
  subst e4651
  obtain ⟨a4657, a4658⟩ := p4656
  show WL _ _ _ _ 1221 [(4, vI i), (3, .ref o), (2, .ref m), (1, .ref x), (0, .ref 0)] [vI z4654] _ H4648
  refine wl_of hX hb cL_1221 (rw_pop (pc' := 1222) rfl rfl ?_)
  refine wl_of hX hb cL_1222 (rw_goto (p1 := 1653) (by decide) ?_)
  have k4659 : H4648 x 9 = H4624 x 9 := (f4653 x 9 _ gx rfl)
  have k4660 : H4648 m 6 = H4624 m 6 := (f4653 m 6 _ gm rfl)
  have k4661 : H4648 x 11 = H4624 x 11 := (f4653 x 11 _ gx rfl)
  have k4662 : H4648 m 13 = H4624 m 13 := (f4653 m 13 _ gm rfl)
  have k4663 : H4648 x 8 = H4624 x 8 := (f4653 x 8 _ gx rfl)
  have k4664 : H4648 m 3 = H4624 m 3 := (f4653 m 3 _ gm rfl)
  have k4665 : H4648 x 0 = H x 0 := ((f4653 x 0 _ gx rfl).trans (f4629 x 0 _ gx rfl))
  have q4666 : H4648 x 0 = (tc : Int) := k4665.trans e0
  have k4667 : H4648 m 5 = H m 5 := ((f4653 m 5 _ gm rfl).trans (f4629 m 5 _ gm rfl))
  have q4668 : H4648 m 5 = (tm : Int) := k4667.trans em
  have k4669 : H4648 x 6 = H x 6 := ((f4653 x 6 _ gx rfl).trans (f4629 x 6 _ gx rfl))
  have q4670 : H4648 x 6 = (cu : Int) := k4669.trans ecu
  have k4671 : H4648 x 7 = H x 7 := ((f4653 x 7 _ gx rfl).trans (f4629 x 7 _ gx rfl))
  have q4672 : H4648 x 7 = (dr : Int) := k4671.trans edr
  have h4673 : CEN T H4648 ce8 e8 d8 := (CEN_fr w4628 gce8 f4653 rfl p4632)
  have h4674 : TP T H4648 tc B := (TP_fr w4628 gtc f4653 rfl (TP_fr hW gtc f4629 rfl htc))
  have h4675 : TM T H4648 tm B := (TM_fr w4628 gtm f4653 rfl (TM_fr hW gtm f4629 rfl htm))
  have h4676 : DD T H4648 cu  := (DD_fr w4628 gcu f4653 rfl (DD_fr hW gcu f4629 rfl hcu))
  have h4677 : DD T H4648 dr  := (DD_fr w4628 gdr f4653 rfl (DD_fr hW gdr f4629 rfl hdr))
  have h4678 : DE T H4648 cu  := (DE_fr w4628 gcu f4653 rfl (DE_fr hW gcu f4629 rfl hdec))
  have h4679 : DE T H4648 dr  := (DE_fr w4628 gdr f4653 rfl (DE_fr hW gdr f4629 rfl hded))
  have h4680 : SP T H4648 x C8 := (SP_fr w4628 gx f4653 rfl (SP_fr hW gx f4629 rfl hsp))
  have h4681 : CU T H4648 cu e8 d8 n8 := (CU_fr w4628 gcu f4653 rfl (CU_fr hW gcu f4629 rfl hcu8))
  have h4682 : CY T H4648 cu (d8 0 3) g8 (H cu 17) := (CY_fr w4628 gcu f4653 rfl (CY_fr hW gcu f4629 rfl h4617))
  have k4683 : H4648 x 3 = H x 3 := ((f4653 x 3 _ gx rfl).trans (f4629 x 3 _ gx rfl))
  have q4684 : H4648 x 3 = (ce8 : Int) := k4683.trans ece8
  have h4685 : HDR T H4648 ce8  := (HDR_fr w4628 gce8 f4653 rfl (HDR_fr hW gce8 f4629 rfl hhdr8))
  have h4686 : RY T H4648 m (d8 0 3) g8 (H m 32) := (RY_fr w4628 gm f4653 rfl (RY_fr hW gm f4629 rfl h4618))
  have h4687 : RB T H4648 m e8 d8 := (RB_fr w4628 gm f4653 rfl h4644)
  exact WL.loc hX (by simp) (next T H4648 ⟨⟨w4652, g0, gx, gm, go, by omega, by omega⟩, ⟨_, tc, tm, cu, dr, _, _, _, _, _, ce8, q4666, gtc, h4674, q4668, gtm, h4675, q4670, gcu, q4672, gdr, h4676, h4677, h4678, h4679, h4680, hC1, hC2, h4681, h4687, (h4682).1, (h4686).1, hE, hZ, (by omega), (by assumption), (by omega), (by first | assumption | exact SG_0), q4684, gce8, h4673, h4685, a4658, gm⟩, by omega, by omega⟩ (by omega) (by omega))
set_option maxHeartbeats 4000000 in
theorem wl_c33 {kt : Nat → Option mc_E} {CB SB : Nat} {X : mc_S → Prop} {T : wq_T} {H : wq_H} {Len x m o : Nat} {i : Int} (hX : wlX kt CB SB X) (hb : T.2.1 ≤ CB ∧ T.2.2.1 ≤ SB) (hI : wlJ Len x m o T H) (hL : Len ≤ 3072) (hi : 0 ≤ i ∧ i + 6 ≤ Len) (hb2 : T.2.1 + 20 ≤ CB ∧ T.2.2.1 + 500 ≤ SB)  (next : ∀ T' H', wlJ Len x m o T' H' → T'.2.1 ≤ T.2.1 + 20 → T'.2.2.1 ≤ T.2.2.1 + 500 → WL kt CB SB X 1653 (wlL i x m o) [] T' H') : WL kt CB SB X 1225 (wlL i x m o) [] T H := by
  obtain ⟨⟨hW, g0, gx, gm, go, hK, hr⟩, hXI, hY1, hY2⟩ := hI
  refine wl_of hX hb cL_1225 (rw_aload_n (pc' := 1226) (v := .ref x) rfl rfl rfl ?_)
  refine wl_of hX hb cL_1226 (rw_aload_n (pc' := 1227) (v := .ref 0) rfl rfl rfl ?_)
  refine wl_of hX hb cL_1227 (rw_iload (pc' := 1229) (z := i) rfl rfl ?_)
  refine wl_of hX hb cL_1229 (rw_iconst (pc' := 1230) rfl ?_)
  refine wl_of hX hb cL_1230 (rw_iadd (pc' := 1231) rfl ?_)
  refine wl_of hX hb cL_1231 (xa_I (so := 0) (pc' := 1232) (a := 0) hW g0 (wsh_s _) (by omega) (wty_s _ _) (by omega) (by omega) rfl (fun b4688 b4689 => ?_))
  obtain ⟨B, tc, tm, cu, dr, C8, e8, d8, n8, g8, ce8, e0, gtc, htc, em, gtm, htm, ecu, gcu, edr, gdr, hcu, hdr, hdec, hded, hsp, hC1, hC2, hcu8, hrb8, hcg8, hmn8, hE, hZ, hn8, hXA, hV8, hSG, ece8, gce8, hcen8, hhdr8, hknn8, -⟩ := hXI
  have hN3 := RB_n3 hrb8
  have hE13 : ∀ h : Nat, h < 24 → 0 ≤ e8 13 h ∧ e8 13 h ≤ 100 := fun k hk => by
    obtain ⟨s, h1, h2, h3⟩ := hcu8.1.2.2.1
    exact ⟨(h3 k hk).1, (h3 k hk).2.1⟩
  have hXW := hXA.1
  have hXN := hXA.2
  have hE0 : e8 0 3 = d8 0 3 ∧ e8 0 0 = d8 0 0 := by
    have h := hE 0 (by decide)
    exact ⟨congrFun h 3, congrFun h 0⟩
  have u4690 := CU_k hcu8
  have h4691 : CY T H cu (d8 0 3) g8 (H cu 17) := ⟨hcg8, rfl⟩
  have h4692 : RY T H m (d8 0 3) g8 (H m 32) := ⟨hmn8, rfl⟩
  obtain ⟨t9, ht9⟩ : ∃ t : Int, t = H x 9 := ⟨_, rfl⟩
  obtain ⟨y9, hy9⟩ : ∃ y : Int, y = H 0 ((i + 1).toNat) := ⟨_, rfl⟩
  obtain ⟨r4693, q4694, g4695⟩ := hW.ref gx (t' := 6) (n := 13) (j := 2) (p := 0) (q := 0) rfl (by decide) rfl
  refine wl_of hX hb cL_1232 (xc_V (pc' := 1235) (r := x) (as := [vI (H 0 ((i + 1).toNat))]) (st := []) (lm_11_159) rfl rfl (Nat.le_of_ble_eq_true rfl) hW gx sh_1 (by decide) rfl (by decide) (u_135 (e := e8) (d := d8) (n := n8) hW gx ⟨by omega, by omega⟩ ecu gcu q4694 g4695 ece8 gce8 (by assumption) (by assumption) (by omega) (by omega) (by omega) (by omega) hcu8 hcen8 hhdr8) (fun R4696 T4697 H4698 p4699 => ?_))
  obtain ⟨e4700, w4702, f4703, z4704, e4701, b4705, p4706⟩ := p4699
  subst e4700
  subst e4701
  show WL _ _ _ _ 1235 [(4, vI i), (3, .ref o), (2, .ref m), (1, .ref x), (0, .ref 0)] [vI z4704] _ H4698
  refine wl_of hX hb cL_1235 (rw_pop (pc' := 1236) rfl rfl ?_)
  refine wl_of hX hb cL_1236 (rw_aload_n (pc' := 1237) (v := .ref m) rfl rfl rfl ?_)
  refine wl_of hX hb cL_1237 (rw_aload_n (pc' := 1238) (v := .ref 0) rfl rfl rfl ?_)
  refine wl_of hX hb cL_1238 (rw_iload (pc' := 1240) (z := i) rfl rfl ?_)
  refine wl_of hX hb cL_1240 (rw_iconst (pc' := 1241) rfl ?_)
  refine wl_of hX hb cL_1241 (rw_iadd (pc' := 1242) rfl ?_)
  have k4710 : H4698 0 ((i + 1).toNat) = H 0 ((i + 1).toNat) := (f4703 0 ((i + 1).toNat) _ g0 (wmem_s rfl))
  refine wl_of hX hb cL_1242 (xa_I (so := 0) (pc' := 1243) (a := 0) w4702 g0 (wsh_s _) (by omega) (wty_s _ _) (by omega) (by omega) rfl (fun b4708 b4709 => ?_))
  have k4711 : wKI H4698 m = wKI H m := (wKI_fr hW gm f4703 rfl)
  have k4712 : H4698 x 9 = H x 9 := (f4703 x 9 _ gx rfl)
  have k4713 : H4698 m 6 = H m 6 := (f4703 m 6 _ gm rfl)
  have k4714 : H4698 x 11 = H x 11 := (f4703 x 11 _ gx rfl)
  have k4715 : H4698 m 13 = H m 13 := (f4703 m 13 _ gm rfl)
  have k4716 : H4698 x 8 = H x 8 := (f4703 x 8 _ gx rfl)
  have k4717 : H4698 m 3 = H m 3 := (f4703 m 3 _ gm rfl)
  rw [show H4698 0 ((i + 1).toNat) = H 0 ((i + 1).toNat) by omega]
  have h4718 : RB T H4698 m e8 d8 := (RB_fr hW gm f4703 rfl hrb8)
  have h4719 : KNN T H4698 m e8 d8 := (KNN_fr hW gm f4703 rfl hknn8)
  refine wl_of hX hb cL_1243 (xc_V (pc' := 1246) (r := m) (as := [vI (H 0 ((i + 1).toNat))]) (st := []) (lm_11_162) rfl rfl (Nat.le_of_ble_eq_true rfl) w4702 gm sh_42 (by decide) rfl (by decide) (u_275 (e := e8) (d := d8) w4702 gm ⟨by omega, by omega⟩ (by omega) (by assumption) (by assumption) (by assumption) (by assumption) h4718 h4719) (fun R4720 T4721 H4722 p4723 => ?_))
  obtain ⟨e4724, w4726, f4727, z4728, e4725, b4729, p4730⟩ := p4723
  subst e4724
  subst e4725
  obtain ⟨a4731, a4732⟩ := p4730
  show WL _ _ _ _ 1246 [(4, vI i), (3, .ref o), (2, .ref m), (1, .ref x), (0, .ref 0)] [vI z4728] _ H4722
  refine wl_of hX hb cL_1246 (rw_pop (pc' := 1247) rfl rfl ?_)
  refine wl_of hX hb cL_1247 (rw_goto (p1 := 1653) (by decide) ?_)
  have k4733 : H4722 x 9 = H4698 x 9 := (f4727 x 9 _ gx rfl)
  have k4734 : H4722 m 6 = H4698 m 6 := (f4727 m 6 _ gm rfl)
  have k4735 : H4722 x 11 = H4698 x 11 := (f4727 x 11 _ gx rfl)
  have k4736 : H4722 m 13 = H4698 m 13 := (f4727 m 13 _ gm rfl)
  have k4737 : H4722 x 8 = H4698 x 8 := (f4727 x 8 _ gx rfl)
  have k4738 : H4722 m 3 = H4698 m 3 := (f4727 m 3 _ gm rfl)
  have k4739 : H4722 x 0 = H x 0 := ((f4727 x 0 _ gx rfl).trans (f4703 x 0 _ gx rfl))
  have q4740 : H4722 x 0 = (tc : Int) := k4739.trans e0
  have k4741 : H4722 m 5 = H m 5 := ((f4727 m 5 _ gm rfl).trans (f4703 m 5 _ gm rfl))
  have q4742 : H4722 m 5 = (tm : Int) := k4741.trans em
  have k4743 : H4722 x 6 = H x 6 := ((f4727 x 6 _ gx rfl).trans (f4703 x 6 _ gx rfl))
  have q4744 : H4722 x 6 = (cu : Int) := k4743.trans ecu
  have k4745 : H4722 x 7 = H x 7 := ((f4727 x 7 _ gx rfl).trans (f4703 x 7 _ gx rfl))
  have q4746 : H4722 x 7 = (dr : Int) := k4745.trans edr
  have h4747 : CEN T H4722 ce8 e8 d8 := (CEN_fr w4702 gce8 f4727 rfl p4706)
  have h4748 : TP T H4722 tc B := (TP_fr w4702 gtc f4727 rfl (TP_fr hW gtc f4703 rfl htc))
  have h4749 : TM T H4722 tm B := (TM_fr w4702 gtm f4727 rfl (TM_fr hW gtm f4703 rfl htm))
  have h4750 : DD T H4722 cu  := (DD_fr w4702 gcu f4727 rfl (DD_fr hW gcu f4703 rfl hcu))
  have h4751 : DD T H4722 dr  := (DD_fr w4702 gdr f4727 rfl (DD_fr hW gdr f4703 rfl hdr))
  have h4752 : DE T H4722 cu  := (DE_fr w4702 gcu f4727 rfl (DE_fr hW gcu f4703 rfl hdec))
  have h4753 : DE T H4722 dr  := (DE_fr w4702 gdr f4727 rfl (DE_fr hW gdr f4703 rfl hded))
  have h4754 : SP T H4722 x C8 := (SP_fr w4702 gx f4727 rfl (SP_fr hW gx f4703 rfl hsp))
  have h4755 : CU T H4722 cu e8 d8 n8 := (CU_fr w4702 gcu f4727 rfl (CU_fr hW gcu f4703 rfl hcu8))
  have h4756 : CY T H4722 cu (d8 0 3) g8 (H cu 17) := (CY_fr w4702 gcu f4727 rfl (CY_fr hW gcu f4703 rfl h4691))
  have k4757 : H4722 x 3 = H x 3 := ((f4727 x 3 _ gx rfl).trans (f4703 x 3 _ gx rfl))
  have q4758 : H4722 x 3 = (ce8 : Int) := k4757.trans ece8
  have h4759 : HDR T H4722 ce8  := (HDR_fr w4702 gce8 f4727 rfl (HDR_fr hW gce8 f4703 rfl hhdr8))
  have h4760 : RY T H4722 m (d8 0 3) g8 (H m 32) := (RY_fr w4702 gm f4727 rfl (RY_fr hW gm f4703 rfl h4692))
  have h4761 : RB T H4722 m e8 d8 := (RB_fr w4702 gm f4727 rfl h4718)
  exact WL.loc hX (by simp) (next T H4722 ⟨⟨w4726, g0, gx, gm, go, by omega, by omega⟩, ⟨_, tc, tm, cu, dr, _, _, _, _, _, ce8, q4740, gtc, h4748, q4742, gtm, h4749, q4744, gcu, q4746, gdr, h4750, h4751, h4752, h4753, h4754, hC1, hC2, h4755, h4761, (h4756).1, (h4760).1, hE, hZ, (by omega), (by assumption), (by omega), (by first | assumption | exact SG_0), q4758, gce8, h4747, h4759, a4732, gm⟩, by omega, by omega⟩ (by omega) (by omega))
set_option maxHeartbeats 4000000 in
theorem wl_c34 {kt : Nat → Option mc_E} {CB SB : Nat} {X : mc_S → Prop} {T : wq_T} {H : wq_H} {Len x m o : Nat} {i : Int} (hX : wlX kt CB SB X) (hb : T.2.1 ≤ CB ∧ T.2.2.1 ≤ SB) (hI : wlJ Len x m o T H) (hL : Len ≤ 3072) (hi : 0 ≤ i ∧ i + 6 ≤ Len) (hb2 : T.2.1 + 20 ≤ CB ∧ T.2.2.1 + 500 ≤ SB)  (next : ∀ T' H', wlJ Len x m o T' H' → T'.2.1 ≤ T.2.1 + 20 → T'.2.2.1 ≤ T.2.2.1 + 500 → WL kt CB SB X 1653 (wlL i x m o) [] T' H') : WL kt CB SB X 1250 (wlL i x m o) [] T H := by
  obtain ⟨⟨hW, g0, gx, gm, go, hK, hr⟩, hXI, hY1, hY2⟩ := hI
  refine wl_of hX hb cL_1250 (rw_aload_n (pc' := 1251) (v := .ref x) rfl rfl rfl ?_)
  obtain ⟨B, tc, tm, cu, dr, C8, e8, d8, n8, g8, ce8, e0, gtc, htc, em, gtm, htm, ecu, gcu, edr, gdr, hcu, hdr, hdec, hded, hsp, hC1, hC2, hcu8, hrb8, hcg8, hmn8, hE, hZ, hn8, hXA, hV8, hSG, ece8, gce8, hcen8, hhdr8, hknn8, -⟩ := hXI
  have hN3 := RB_n3 hrb8
  have hE13 : ∀ h : Nat, h < 24 → 0 ≤ e8 13 h ∧ e8 13 h ≤ 100 := fun k hk => by
    obtain ⟨s, h1, h2, h3⟩ := hcu8.1.2.2.1
    exact ⟨(h3 k hk).1, (h3 k hk).2.1⟩
  have hXW := hXA.1
  have hXN := hXA.2
  have hE0 : e8 0 3 = d8 0 3 ∧ e8 0 0 = d8 0 0 := by
    have h := hE 0 (by decide)
    exact ⟨congrFun h 3, congrFun h 0⟩
  have u4762 := CU_k hcu8
  have h4763 : CY T H cu (d8 0 3) g8 (H cu 17) := ⟨hcg8, rfl⟩
  have h4764 : RY T H m (d8 0 3) g8 (H m 32) := ⟨hmn8, rfl⟩
  obtain ⟨t9, ht9⟩ : ∃ t : Int, t = H x 9 := ⟨_, rfl⟩
  obtain ⟨r4765, q4766, g4767⟩ := hW.ref gx (t' := 6) (n := 13) (j := 2) (p := 0) (q := 0) rfl (by decide) rfl
  obtain ⟨r4768, q4769, g4770⟩ := hW.ref gx (t' := 25) (n := 13) (j := 5) (p := 0) (q := 0) rfl (by decide) rfl
  refine wl_of hX hb cL_1251 (xc_V (pc' := 1254) (r := x) (as := []) (st := []) (lm_11_163) rfl rfl (Nat.le_of_ble_eq_true rfl) hW gx sh_1 (by decide) rfl (by decide) (u_137 (e := e8) (d := d8) (n := n8) hW gx ecu gcu q4766 g4767 ece8 gce8 q4769 g4770 (by assumption) (by assumption) (by omega) (by omega) (by omega) (by omega) hcu8 hcen8 hhdr8) (fun R4771 T4772 H4773 p4774 => ?_))
  obtain ⟨e4775, w4777, f4778, z4779, e4776, b4780, p4781⟩ := p4774
  subst e4775
  subst e4776
  rcases p4781 with ⟨a4782, a4783, a4784⟩ | ⟨a4785, a4786, a4787, a4788⟩
  · show WL _ _ _ _ 1254 [(4, vI i), (3, .ref o), (2, .ref m), (1, .ref x), (0, .ref 0)] [vI z4779] _ H4773
    refine wl_of hX hb cL_1254 (rw_aload_n (pc' := 1255) (v := .ref m) rfl rfl rfl ?_)
    have k4789 : wKI H4773 m = wKI H m := (wKI_fr hW gm f4778 rfl)
    have k4790 : H4773 x 9 = H x 9 := (f4778 x 9 _ gx rfl)
    have k4791 : H4773 m 6 = H m 6 := (f4778 m 6 _ gm rfl)
    have k4792 : H4773 x 11 = H x 11 := (f4778 x 11 _ gx rfl)
    have k4793 : H4773 m 13 = H m 13 := (f4778 m 13 _ gm rfl)
    have k4794 : H4773 x 8 = H x 8 := (f4778 x 8 _ gx rfl)
    have k4795 : H4773 m 3 = H m 3 := (f4778 m 3 _ gm rfl)
    have h4796 : RB T H4773 m e8 d8 := (RB_fr hW gm f4778 rfl hrb8)
    have h4797 : KNN T H4773 m e8 d8 := (KNN_fr hW gm f4778 rfl hknn8)
    refine wl_of hX hb cL_1255 (xc_V (pc' := 1258) (r := m) (as := []) (st := [vI z4779]) (lm_11_166) rfl rfl (Nat.le_of_ble_eq_true rfl) w4777 gm sh_42 (by decide) rfl (by decide) (u_276 (e := e8) (d := d8) w4777 gm (by omega) (by assumption) (by assumption) (by assumption) (by assumption) h4796 h4797) (fun R4798 T4799 H4800 p4801 => ?_))
    obtain ⟨e4802, w4804, f4805, z4806, e4803, b4807, p4808⟩ := p4801
    subst e4802
    subst e4803
    rcases p4808 with ⟨a4809, a4810, a4811, a4812⟩ | ⟨a4813, a4814, a4815, a4816, a4817⟩
    · show WL _ _ _ _ 1258 [(4, vI i), (3, .ref o), (2, .ref m), (1, .ref x), (0, .ref 0)] [vI z4806, vI z4779] _ H4800
      refine wl_of hX hb cL_1258 (rw_icmp_eq (p1 := 1653) (p2 := 1261) (by decide) rfl ⟨b4780.1, b4780.2⟩ ⟨b4807.1, b4807.2⟩ (fun c4818 => ?_) (fun c4818 => ?_))
      · have k4819 : H4800 x 9 = H4773 x 9 := (f4805 x 9 _ gx rfl)
        have k4820 : H4800 m 6 = H4773 m 6 := (f4805 m 6 _ gm rfl)
        have k4821 : H4800 x 11 = H4773 x 11 := (f4805 x 11 _ gx rfl)
        have k4822 : H4800 m 13 = H4773 m 13 := (f4805 m 13 _ gm rfl)
        have k4823 : H4800 x 8 = H4773 x 8 := (f4805 x 8 _ gx rfl)
        have k4824 : H4800 m 3 = H4773 m 3 := (f4805 m 3 _ gm rfl)
        have k4825 : H4800 x 0 = H x 0 := ((f4805 x 0 _ gx rfl).trans (f4778 x 0 _ gx rfl))
        have q4826 : H4800 x 0 = (tc : Int) := k4825.trans e0
        have k4827 : H4800 m 5 = H m 5 := ((f4805 m 5 _ gm rfl).trans (f4778 m 5 _ gm rfl))
        have q4828 : H4800 m 5 = (tm : Int) := k4827.trans em
        have k4829 : H4800 x 6 = H x 6 := ((f4805 x 6 _ gx rfl).trans (f4778 x 6 _ gx rfl))
        have q4830 : H4800 x 6 = (cu : Int) := k4829.trans ecu
        have k4831 : H4800 x 7 = H x 7 := ((f4805 x 7 _ gx rfl).trans (f4778 x 7 _ gx rfl))
        have q4832 : H4800 x 7 = (dr : Int) := k4831.trans edr
        have h4833 : CEN T H4800 ce8 e8 d8 := (CEN_fr w4777 gce8 f4805 rfl a4784)
        have h4834 : TP T H4800 tc B := (TP_fr w4777 gtc f4805 rfl (TP_fr hW gtc f4778 rfl htc))
        have h4835 : TM T H4800 tm B := (TM_fr w4777 gtm f4805 rfl (TM_fr hW gtm f4778 rfl htm))
        have h4836 : DD T H4800 cu  := (DD_fr w4777 gcu f4805 rfl (DD_fr hW gcu f4778 rfl hcu))
        have h4837 : DD T H4800 dr  := (DD_fr w4777 gdr f4805 rfl (DD_fr hW gdr f4778 rfl hdr))
        have h4838 : DE T H4800 cu  := (DE_fr w4777 gcu f4805 rfl (DE_fr hW gcu f4778 rfl hdec))
        have h4839 : DE T H4800 dr  := (DE_fr w4777 gdr f4805 rfl (DE_fr hW gdr f4778 rfl hded))
        have h4840 : SP T H4800 x C8 := (SP_fr w4777 gx f4805 rfl (SP_fr hW gx f4778 rfl hsp))
        have h4841 : CU T H4800 cu e8 d8 n8 := (CU_fr w4777 gcu f4805 rfl (CU_fr hW gcu f4778 rfl hcu8))
        have h4842 : CY T H4800 cu (d8 0 3) g8 (H cu 17) := (CY_fr w4777 gcu f4805 rfl (CY_fr hW gcu f4778 rfl h4763))
        have k4843 : H4800 x 3 = H x 3 := ((f4805 x 3 _ gx rfl).trans (f4778 x 3 _ gx rfl))
        have q4844 : H4800 x 3 = (ce8 : Int) := k4843.trans ece8
        have h4845 : HDR T H4800 ce8  := (HDR_fr w4777 gce8 f4805 rfl (HDR_fr hW gce8 f4778 rfl hhdr8))
        have h4846 : RY T H4800 m (d8 0 3) g8 (H m 32) := (RY_fr w4777 gm f4805 rfl (RY_fr hW gm f4778 rfl h4764))
        have h4847 : RB T H4800 m e8 d8 := (RB_fr w4777 gm f4805 rfl h4796)
        exact WL.loc hX (by simp) (next T H4800 ⟨⟨w4804, g0, gx, gm, go, by omega, by omega⟩, ⟨_, tc, tm, cu, dr, _, _, _, _, _, ce8, q4826, gtc, h4834, q4828, gtm, h4835, q4830, gcu, q4832, gdr, h4836, h4837, h4838, h4839, h4840, hC1, hC2, h4841, h4847, (h4842).1, (h4846).1, hE, hZ, (by omega), (by assumption), (by omega), (by first | assumption | exact SG_0), q4844, gce8, h4833, h4845, a4812, gm⟩, by omega, by omega⟩ (by omega) (by omega))
      · exfalso
        omega
    · show WL _ _ _ _ 1258 [(4, vI i), (3, .ref o), (2, .ref m), (1, .ref x), (0, .ref 0)] [vI z4806, vI z4779] _ H4800
      try have _u9 : z4779 = z4806 := XPF_1 (by assumption : XPF _ _ z4779) (by assumption)
      refine wl_of hX hb cL_1258 (rw_icmp_eq (p1 := 1653) (p2 := 1261) (by decide) rfl ⟨b4780.1, b4780.2⟩ ⟨b4807.1, b4807.2⟩ (fun c4848 => ?_) (fun c4848 => ?_))
      · have k4849 : H4800 x 9 = H4773 x 9 := (f4805 x 9 _ gx rfl)
        have k4850 : H4800 m 6 = H4773 m 6 := (f4805 m 6 _ gm rfl)
        have k4851 : H4800 x 11 = H4773 x 11 := (f4805 x 11 _ gx rfl)
        have k4852 : H4800 m 13 = H4773 m 13 := (f4805 m 13 _ gm rfl)
        have k4853 : H4800 x 8 = H4773 x 8 := (f4805 x 8 _ gx rfl)
        have k4854 : H4800 m 3 = H4773 m 3 := (f4805 m 3 _ gm rfl)
        have k4855 : H4800 x 0 = H x 0 := ((f4805 x 0 _ gx rfl).trans (f4778 x 0 _ gx rfl))
        have q4856 : H4800 x 0 = (tc : Int) := k4855.trans e0
        have k4857 : H4800 m 5 = H m 5 := ((f4805 m 5 _ gm rfl).trans (f4778 m 5 _ gm rfl))
        have q4858 : H4800 m 5 = (tm : Int) := k4857.trans em
        have k4859 : H4800 x 6 = H x 6 := ((f4805 x 6 _ gx rfl).trans (f4778 x 6 _ gx rfl))
        have q4860 : H4800 x 6 = (cu : Int) := k4859.trans ecu
        have k4861 : H4800 x 7 = H x 7 := ((f4805 x 7 _ gx rfl).trans (f4778 x 7 _ gx rfl))
        have q4862 : H4800 x 7 = (dr : Int) := k4861.trans edr
        have h4863 : CEN T H4800 ce8 e8 d8 := (CEN_fr w4777 gce8 f4805 rfl a4784)
        have h4864 : TP T H4800 tc B := (TP_fr w4777 gtc f4805 rfl (TP_fr hW gtc f4778 rfl htc))
        have h4865 : TM T H4800 tm B := (TM_fr w4777 gtm f4805 rfl (TM_fr hW gtm f4778 rfl htm))
        have h4866 : DD T H4800 cu  := (DD_fr w4777 gcu f4805 rfl (DD_fr hW gcu f4778 rfl hcu))
        have h4867 : DD T H4800 dr  := (DD_fr w4777 gdr f4805 rfl (DD_fr hW gdr f4778 rfl hdr))
        have h4868 : DE T H4800 cu  := (DE_fr w4777 gcu f4805 rfl (DE_fr hW gcu f4778 rfl hdec))
        have h4869 : DE T H4800 dr  := (DE_fr w4777 gdr f4805 rfl (DE_fr hW gdr f4778 rfl hded))
        have h4870 : SP T H4800 x C8 := (SP_fr w4777 gx f4805 rfl (SP_fr hW gx f4778 rfl hsp))
        have h4871 : CU T H4800 cu e8 d8 n8 := (CU_fr w4777 gcu f4805 rfl (CU_fr hW gcu f4778 rfl hcu8))
        have h4872 : CY T H4800 cu (d8 0 3) g8 (H cu 17) := (CY_fr w4777 gcu f4805 rfl (CY_fr hW gcu f4778 rfl h4763))
        have k4873 : H4800 x 3 = H x 3 := ((f4805 x 3 _ gx rfl).trans (f4778 x 3 _ gx rfl))
        have q4874 : H4800 x 3 = (ce8 : Int) := k4873.trans ece8
        have h4875 : HDR T H4800 ce8  := (HDR_fr w4777 gce8 f4805 rfl (HDR_fr hW gce8 f4778 rfl hhdr8))
        have h4876 : RY T H4800 m (d8 0 3) g8 (H m 32) := (RY_fr w4777 gm f4805 rfl (RY_fr hW gm f4778 rfl h4764))
        have h4877 : RB T H4800 m e8 d8 := (RB_fr w4777 gm f4805 rfl h4796)
        exact WL.loc hX (by simp) (next T H4800 ⟨⟨w4804, g0, gx, gm, go, by omega, by omega⟩, ⟨_, tc, tm, cu, dr, _, _, _, _, _, ce8, q4856, gtc, h4864, q4858, gtm, h4865, q4860, gcu, q4862, gdr, h4866, h4867, h4868, h4869, h4870, hC1, hC2, h4871, h4877, (h4872).1, (h4876).1, hE, hZ, (by omega), (by assumption), (by omega), (by first | assumption | exact SG_0), q4874, gce8, h4863, h4875, a4817, gm⟩, by omega, by omega⟩ (by omega) (by omega))
      · refine wl_of hX hb cL_1261 (rw_iconst (pc' := 1262) rfl ?_)
        exfalso
        omega
  · show WL _ _ _ _ 1254 [(4, vI i), (3, .ref o), (2, .ref m), (1, .ref x), (0, .ref 0)] [vI z4779] _ H4773
    refine wl_of hX hb cL_1254 (rw_aload_n (pc' := 1255) (v := .ref m) rfl rfl rfl ?_)
    have k4878 : wKI H4773 m = wKI H m := (wKI_fr hW gm f4778 rfl)
    have k4879 : H4773 x 9 = H x 9 := (f4778 x 9 _ gx rfl)
    have k4880 : H4773 m 6 = H m 6 := (f4778 m 6 _ gm rfl)
    have k4881 : H4773 x 11 = H x 11 := (f4778 x 11 _ gx rfl)
    have k4882 : H4773 m 13 = H m 13 := (f4778 m 13 _ gm rfl)
    have k4883 : H4773 x 8 = H x 8 := (f4778 x 8 _ gx rfl)
    have k4884 : H4773 m 3 = H m 3 := (f4778 m 3 _ gm rfl)
    have h4885 : RB T H4773 m e8 d8 := (RB_fr hW gm f4778 rfl hrb8)
    have h4886 : KNN T H4773 m e8 d8 := (KNN_fr hW gm f4778 rfl hknn8)
    refine wl_of hX hb cL_1255 (xc_V (pc' := 1258) (r := m) (as := []) (st := [vI z4779]) (lm_11_166) rfl rfl (Nat.le_of_ble_eq_true rfl) w4777 gm sh_42 (by decide) rfl (by decide) (u_276 (e := e8) (d := d8) w4777 gm (by omega) (by assumption) (by assumption) (by assumption) (by assumption) h4885 h4886) (fun R4887 T4888 H4889 p4890 => ?_))
    obtain ⟨e4891, w4893, f4894, z4895, e4892, b4896, p4897⟩ := p4890
    subst e4891
    subst e4892
    rcases p4897 with ⟨a4898, a4899, a4900, a4901⟩ | ⟨a4902, a4903, a4904, a4905, a4906⟩
    · show WL _ _ _ _ 1258 [(4, vI i), (3, .ref o), (2, .ref m), (1, .ref x), (0, .ref 0)] [vI z4895, vI z4779] _ H4889
      refine wl_of hX hb cL_1258 (rw_icmp_eq (p1 := 1653) (p2 := 1261) (by decide) rfl ⟨b4780.1, b4780.2⟩ ⟨b4896.1, b4896.2⟩ (fun c4907 => ?_) (fun c4907 => ?_))
      · have k4908 : H4889 x 9 = H4773 x 9 := (f4894 x 9 _ gx rfl)
        have k4909 : H4889 m 6 = H4773 m 6 := (f4894 m 6 _ gm rfl)
        have k4910 : H4889 x 11 = H4773 x 11 := (f4894 x 11 _ gx rfl)
        have k4911 : H4889 m 13 = H4773 m 13 := (f4894 m 13 _ gm rfl)
        have k4912 : H4889 x 8 = H4773 x 8 := (f4894 x 8 _ gx rfl)
        have k4913 : H4889 m 3 = H4773 m 3 := (f4894 m 3 _ gm rfl)
        have k4914 : H4889 x 0 = H x 0 := ((f4894 x 0 _ gx rfl).trans (f4778 x 0 _ gx rfl))
        have q4915 : H4889 x 0 = (tc : Int) := k4914.trans e0
        have k4916 : H4889 m 5 = H m 5 := ((f4894 m 5 _ gm rfl).trans (f4778 m 5 _ gm rfl))
        have q4917 : H4889 m 5 = (tm : Int) := k4916.trans em
        have k4918 : H4889 x 6 = H x 6 := ((f4894 x 6 _ gx rfl).trans (f4778 x 6 _ gx rfl))
        have q4919 : H4889 x 6 = (cu : Int) := k4918.trans ecu
        have k4920 : H4889 x 7 = H x 7 := ((f4894 x 7 _ gx rfl).trans (f4778 x 7 _ gx rfl))
        have q4921 : H4889 x 7 = (dr : Int) := k4920.trans edr
        have h4922 : CEN T H4889 ce8 e8 d8 := (CEN_fr w4777 gce8 f4894 rfl a4788)
        have h4923 : TP T H4889 tc B := (TP_fr w4777 gtc f4894 rfl (TP_fr hW gtc f4778 rfl htc))
        have h4924 : TM T H4889 tm B := (TM_fr w4777 gtm f4894 rfl (TM_fr hW gtm f4778 rfl htm))
        have h4925 : DD T H4889 cu  := (DD_fr w4777 gcu f4894 rfl (DD_fr hW gcu f4778 rfl hcu))
        have h4926 : DD T H4889 dr  := (DD_fr w4777 gdr f4894 rfl (DD_fr hW gdr f4778 rfl hdr))
        have h4927 : DE T H4889 cu  := (DE_fr w4777 gcu f4894 rfl (DE_fr hW gcu f4778 rfl hdec))
        have h4928 : DE T H4889 dr  := (DE_fr w4777 gdr f4894 rfl (DE_fr hW gdr f4778 rfl hded))
        have h4929 : SP T H4889 x C8 := (SP_fr w4777 gx f4894 rfl (SP_fr hW gx f4778 rfl hsp))
        have h4930 : CU T H4889 cu e8 d8 n8 := (CU_fr w4777 gcu f4894 rfl (CU_fr hW gcu f4778 rfl hcu8))
        have h4931 : CY T H4889 cu (d8 0 3) g8 (H cu 17) := (CY_fr w4777 gcu f4894 rfl (CY_fr hW gcu f4778 rfl h4763))
        have k4932 : H4889 x 3 = H x 3 := ((f4894 x 3 _ gx rfl).trans (f4778 x 3 _ gx rfl))
        have q4933 : H4889 x 3 = (ce8 : Int) := k4932.trans ece8
        have h4934 : HDR T H4889 ce8  := (HDR_fr w4777 gce8 f4894 rfl (HDR_fr hW gce8 f4778 rfl hhdr8))
        have h4935 : RY T H4889 m (d8 0 3) g8 (H m 32) := (RY_fr w4777 gm f4894 rfl (RY_fr hW gm f4778 rfl h4764))
        have h4936 : RB T H4889 m e8 d8 := (RB_fr w4777 gm f4894 rfl h4885)
        exact WL.loc hX (by simp) (next T H4889 ⟨⟨w4893, g0, gx, gm, go, by omega, by omega⟩, ⟨_, tc, tm, cu, dr, _, _, _, _, _, ce8, q4915, gtc, h4923, q4917, gtm, h4924, q4919, gcu, q4921, gdr, h4925, h4926, h4927, h4928, h4929, hC1, hC2, h4930, h4936, (h4931).1, (h4935).1, hE, hZ, (by omega), (by assumption), (by omega), (by first | assumption | exact SG_0), q4933, gce8, h4922, h4934, a4901, gm⟩, by omega, by omega⟩ (by omega) (by omega))
      · refine wl_of hX hb cL_1261 (rw_iconst (pc' := 1262) rfl ?_)
        exfalso
        omega
    · show WL _ _ _ _ 1258 [(4, vI i), (3, .ref o), (2, .ref m), (1, .ref x), (0, .ref 0)] [vI z4895, vI z4779] _ H4889
      try have _u9 : z4779 = z4895 := XPF_1 (by assumption : XPF _ _ z4779) (by assumption)
      refine wl_of hX hb cL_1258 (rw_icmp_eq (p1 := 1653) (p2 := 1261) (by decide) rfl ⟨b4780.1, b4780.2⟩ ⟨b4896.1, b4896.2⟩ (fun c4937 => ?_) (fun c4937 => ?_))
      · have k4938 : H4889 x 9 = H4773 x 9 := (f4894 x 9 _ gx rfl)
        have k4939 : H4889 m 6 = H4773 m 6 := (f4894 m 6 _ gm rfl)
        have k4940 : H4889 x 11 = H4773 x 11 := (f4894 x 11 _ gx rfl)
        have k4941 : H4889 m 13 = H4773 m 13 := (f4894 m 13 _ gm rfl)
        have k4942 : H4889 x 8 = H4773 x 8 := (f4894 x 8 _ gx rfl)
        have k4943 : H4889 m 3 = H4773 m 3 := (f4894 m 3 _ gm rfl)
        have k4944 : H4889 x 0 = H x 0 := ((f4894 x 0 _ gx rfl).trans (f4778 x 0 _ gx rfl))
        have q4945 : H4889 x 0 = (tc : Int) := k4944.trans e0
        have k4946 : H4889 m 5 = H m 5 := ((f4894 m 5 _ gm rfl).trans (f4778 m 5 _ gm rfl))
        have q4947 : H4889 m 5 = (tm : Int) := k4946.trans em
        have k4948 : H4889 x 6 = H x 6 := ((f4894 x 6 _ gx rfl).trans (f4778 x 6 _ gx rfl))
        have q4949 : H4889 x 6 = (cu : Int) := k4948.trans ecu
        have k4950 : H4889 x 7 = H x 7 := ((f4894 x 7 _ gx rfl).trans (f4778 x 7 _ gx rfl))
        have q4951 : H4889 x 7 = (dr : Int) := k4950.trans edr
        have h4952 : CEN T H4889 ce8 e8 d8 := (CEN_fr w4777 gce8 f4894 rfl a4788)
        have h4953 : TP T H4889 tc B := (TP_fr w4777 gtc f4894 rfl (TP_fr hW gtc f4778 rfl htc))
        have h4954 : TM T H4889 tm B := (TM_fr w4777 gtm f4894 rfl (TM_fr hW gtm f4778 rfl htm))
        have h4955 : DD T H4889 cu  := (DD_fr w4777 gcu f4894 rfl (DD_fr hW gcu f4778 rfl hcu))
        have h4956 : DD T H4889 dr  := (DD_fr w4777 gdr f4894 rfl (DD_fr hW gdr f4778 rfl hdr))
        have h4957 : DE T H4889 cu  := (DE_fr w4777 gcu f4894 rfl (DE_fr hW gcu f4778 rfl hdec))
        have h4958 : DE T H4889 dr  := (DE_fr w4777 gdr f4894 rfl (DE_fr hW gdr f4778 rfl hded))
        have h4959 : SP T H4889 x C8 := (SP_fr w4777 gx f4894 rfl (SP_fr hW gx f4778 rfl hsp))
        have h4960 : CU T H4889 cu e8 d8 n8 := (CU_fr w4777 gcu f4894 rfl (CU_fr hW gcu f4778 rfl hcu8))
        have h4961 : CY T H4889 cu (d8 0 3) g8 (H cu 17) := (CY_fr w4777 gcu f4894 rfl (CY_fr hW gcu f4778 rfl h4763))
        have k4962 : H4889 x 3 = H x 3 := ((f4894 x 3 _ gx rfl).trans (f4778 x 3 _ gx rfl))
        have q4963 : H4889 x 3 = (ce8 : Int) := k4962.trans ece8
        have h4964 : HDR T H4889 ce8  := (HDR_fr w4777 gce8 f4894 rfl (HDR_fr hW gce8 f4778 rfl hhdr8))
        have h4965 : RY T H4889 m (d8 0 3) g8 (H m 32) := (RY_fr w4777 gm f4894 rfl (RY_fr hW gm f4778 rfl h4764))
        have h4966 : RB T H4889 m e8 d8 := (RB_fr w4777 gm f4894 rfl h4885)
        exact WL.loc hX (by simp) (next T H4889 ⟨⟨w4893, g0, gx, gm, go, by omega, by omega⟩, ⟨_, tc, tm, cu, dr, _, _, _, _, _, ce8, q4945, gtc, h4953, q4947, gtm, h4954, q4949, gcu, q4951, gdr, h4955, h4956, h4957, h4958, h4959, hC1, hC2, h4960, h4966, (h4961).1, (h4965).1, hE, hZ, (by omega), (by assumption), (by omega), (by first | assumption | exact SG_0), q4963, gce8, h4952, h4964, a4906, gm⟩, by omega, by omega⟩ (by omega) (by omega))
      · refine wl_of hX hb cL_1261 (rw_iconst (pc' := 1262) rfl ?_)
        exfalso
        omega
set_option maxHeartbeats 4000000 in
theorem wl_c35 {kt : Nat → Option mc_E} {CB SB : Nat} {X : mc_S → Prop} {T : wq_T} {H : wq_H} {Len x m o : Nat} {i : Int} (hX : wlX kt CB SB X) (hb : T.2.1 ≤ CB ∧ T.2.2.1 ≤ SB) (hI : wlJ Len x m o T H) (hL : Len ≤ 3072) (hi : 0 ≤ i ∧ i + 6 ≤ Len) (hb2 : T.2.1 + 20 ≤ CB ∧ T.2.2.1 + 500 ≤ SB)  (next : ∀ T' H', wlJ Len x m o T' H' → T'.2.1 ≤ T.2.1 + 20 → T'.2.2.1 ≤ T.2.2.1 + 500 → WL kt CB SB X 1653 (wlL i x m o) [] T' H') : WL kt CB SB X 1263 (wlL i x m o) [] T H := by
  obtain ⟨⟨hW, g0, gx, gm, go, hK, hr⟩, hXI, hY1, hY2⟩ := hI
  refine wl_of hX hb cL_1263 (rw_aload_n (pc' := 1264) (v := .ref x) rfl rfl rfl ?_)
  refine wl_of hX hb cL_1264 (rw_aload_n (pc' := 1265) (v := .ref 0) rfl rfl rfl ?_)
  refine wl_of hX hb cL_1265 (rw_iload (pc' := 1267) (z := i) rfl rfl ?_)
  refine wl_of hX hb cL_1267 (rw_iconst (pc' := 1268) rfl ?_)
  refine wl_of hX hb cL_1268 (rw_iadd (pc' := 1269) rfl ?_)
  refine wl_of hX hb cL_1269 (xa_I (so := 0) (pc' := 1270) (a := 0) hW g0 (wsh_s _) (by omega) (wty_s _ _) (by omega) (by omega) rfl (fun b4967 b4968 => ?_))
  refine wl_of hX hb cL_1270 (rw_aload_n (pc' := 1271) (v := .ref 0) rfl rfl rfl ?_)
  refine wl_of hX hb cL_1271 (rw_iload (pc' := 1273) (z := i) rfl rfl ?_)
  refine wl_of hX hb cL_1273 (rw_iconst (pc' := 1274) rfl ?_)
  refine wl_of hX hb cL_1274 (rw_iadd (pc' := 1275) rfl ?_)
  refine wl_of hX hb cL_1275 (xa_I (so := 0) (pc' := 1276) (a := 0) hW g0 (wsh_s _) (by omega) (wty_s _ _) (by omega) (by omega) rfl (fun b4969 b4970 => ?_))
  refine wl_of hX hb cL_1276 (rw_if_eq (p1 := 1283) (p2 := 1279) (by decide) rfl ⟨by omega, by omega⟩ (fun c4971 => ?_) (fun c4971 => ?_))
  · refine wl_of hX hb cL_1283 (rw_iconst (pc' := 1284) rfl ?_)
    obtain ⟨B, tc, tm, cu, dr, C8, e8, d8, n8, g8, ce8, e0, gtc, htc, em, gtm, htm, ecu, gcu, edr, gdr, hcu, hdr, hdec, hded, hsp, hC1, hC2, hcu8, hrb8, hcg8, hmn8, hE, hZ, hn8, hXA, hV8, hSG, ece8, gce8, hcen8, hhdr8, hknn8, -⟩ := hXI
    have hN3 := RB_n3 hrb8
    have hE13 : ∀ h : Nat, h < 24 → 0 ≤ e8 13 h ∧ e8 13 h ≤ 100 := fun k hk => by
      obtain ⟨s, h1, h2, h3⟩ := hcu8.1.2.2.1
      exact ⟨(h3 k hk).1, (h3 k hk).2.1⟩
    have hXW := hXA.1
    have hXN := hXA.2
    have hE0 : e8 0 3 = d8 0 3 ∧ e8 0 0 = d8 0 0 := by
      have h := hE 0 (by decide)
      exact ⟨congrFun h 3, congrFun h 0⟩
    have u4972 := CU_k hcu8
    have h4973 : CY T H cu (d8 0 3) g8 (H cu 17) := ⟨hcg8, rfl⟩
    have h4974 : RY T H m (d8 0 3) g8 (H m 32) := ⟨hmn8, rfl⟩
    obtain ⟨t9, ht9⟩ : ∃ t : Int, t = H x 9 := ⟨_, rfl⟩
    obtain ⟨y9, hy9⟩ : ∃ y : Int, y = 0 := ⟨_, rfl⟩
    obtain ⟨r4975, q4976, g4977⟩ := hW.ref gx (t' := 6) (n := 13) (j := 2) (p := 0) (q := 0) rfl (by decide) rfl
    refine wl_of hX hb cL_1284 (xc_V (pc' := 1287) (r := x) (as := [vI (H 0 ((i + 1).toNat)), vI 0]) (st := []) (lm_11_167) rfl rfl (Nat.le_of_ble_eq_true rfl) hW gx sh_1 (by decide) rfl (by decide) (u_146 (e := e8) (d := d8) (n := n8) hW gx ⟨by omega, by omega⟩ ⟨by decide, by decide⟩ ecu gcu q4976 g4977 ece8 gce8 (by assumption) (by assumption) (by omega) (by omega) (by omega) (by omega) hcu8 hcen8 hhdr8) (fun R4978 T4979 H4980 p4981 => ?_))
    obtain ⟨e4982, w4984, f4985, z4986, e4983, b4987, p4988⟩ := p4981
    subst e4982
    subst e4983
    show WL _ _ _ _ 1287 [(4, vI i), (3, .ref o), (2, .ref m), (1, .ref x), (0, .ref 0)] [vI z4986] _ H4980
    refine wl_of hX hb cL_1287 (rw_pop (pc' := 1288) rfl rfl ?_)
    refine wl_of hX hb cL_1288 (rw_aload_n (pc' := 1289) (v := .ref m) rfl rfl rfl ?_)
    refine wl_of hX hb cL_1289 (rw_aload_n (pc' := 1290) (v := .ref 0) rfl rfl rfl ?_)
    refine wl_of hX hb cL_1290 (rw_iload (pc' := 1292) (z := i) rfl rfl ?_)
    refine wl_of hX hb cL_1292 (rw_iconst (pc' := 1293) rfl ?_)
    refine wl_of hX hb cL_1293 (rw_iadd (pc' := 1294) rfl ?_)
    have k4992 : H4980 0 ((i + 1).toNat) = H 0 ((i + 1).toNat) := (f4985 0 ((i + 1).toNat) _ g0 (wmem_s rfl))
    refine wl_of hX hb cL_1294 (xa_I (so := 0) (pc' := 1295) (a := 0) w4984 g0 (wsh_s _) (by omega) (wty_s _ _) (by omega) (by omega) rfl (fun b4990 b4991 => ?_))
    refine wl_of hX hb cL_1295 (rw_aload_n (pc' := 1296) (v := .ref 0) rfl rfl rfl ?_)
    refine wl_of hX hb cL_1296 (rw_iload (pc' := 1298) (z := i) rfl rfl ?_)
    refine wl_of hX hb cL_1298 (rw_iconst (pc' := 1299) rfl ?_)
    refine wl_of hX hb cL_1299 (rw_iadd (pc' := 1300) rfl ?_)
    have k4995 : H4980 0 ((i + 2).toNat) = H 0 ((i + 2).toNat) := (f4985 0 ((i + 2).toNat) _ g0 (wmem_s rfl))
    refine wl_of hX hb cL_1300 (xa_I (so := 0) (pc' := 1301) (a := 0) w4984 g0 (wsh_s _) (by omega) (wty_s _ _) (by omega) (by omega) rfl (fun b4993 b4994 => ?_))
    refine wl_of hX hb cL_1301 (rw_if_eq (p1 := 1308) (p2 := 1304) (by decide) rfl ⟨by omega, by omega⟩ (fun c4996 => ?_) (fun c4996 => ?_))
    · refine wl_of hX hb cL_1308 (rw_iconst (pc' := 1309) rfl ?_)
      have k4997 : wKI H4980 m = wKI H m := (wKI_fr hW gm f4985 rfl)
      have k4998 : H4980 x 9 = H x 9 := (f4985 x 9 _ gx rfl)
      have k4999 : H4980 m 6 = H m 6 := (f4985 m 6 _ gm rfl)
      have k5000 : H4980 x 11 = H x 11 := (f4985 x 11 _ gx rfl)
      have k5001 : H4980 m 13 = H m 13 := (f4985 m 13 _ gm rfl)
      have k5002 : H4980 x 8 = H x 8 := (f4985 x 8 _ gx rfl)
      have k5003 : H4980 m 3 = H m 3 := (f4985 m 3 _ gm rfl)
      rw [show H4980 0 ((i + 1).toNat) = H 0 ((i + 1).toNat) by omega]
      have h5004 : RB T H4980 m e8 d8 := (RB_fr hW gm f4985 rfl hrb8)
      have h5005 : KNN T H4980 m e8 d8 := (KNN_fr hW gm f4985 rfl hknn8)
      refine wl_of hX hb cL_1309 (xc_V (pc' := 1312) (r := m) (as := [vI (H 0 ((i + 1).toNat)), vI 0]) (st := []) (lm_11_170) rfl rfl (Nat.le_of_ble_eq_true rfl) w4984 gm sh_42 (by decide) rfl (by decide) (u_279 (e := e8) (d := d8) w4984 gm ⟨by omega, by omega⟩ ⟨by decide, by decide⟩ (by omega) (by assumption) (by assumption) (by assumption) (by assumption) h5004 h5005) (fun R5006 T5007 H5008 p5009 => ?_))
      obtain ⟨e5010, w5012, f5013, z5014, e5011, b5015, p5016⟩ := p5009
      subst e5010
      subst e5011
      obtain ⟨a5017, a5018⟩ := p5016
      show WL _ _ _ _ 1312 [(4, vI i), (3, .ref o), (2, .ref m), (1, .ref x), (0, .ref 0)] [vI z5014] _ H5008
      refine wl_of hX hb cL_1312 (rw_pop (pc' := 1313) rfl rfl ?_)
      refine wl_of hX hb cL_1313 (rw_goto (p1 := 1653) (by decide) ?_)
      have k5019 : H5008 x 9 = H4980 x 9 := (f5013 x 9 _ gx rfl)
      have k5020 : H5008 m 6 = H4980 m 6 := (f5013 m 6 _ gm rfl)
      have k5021 : H5008 x 11 = H4980 x 11 := (f5013 x 11 _ gx rfl)
      have k5022 : H5008 m 13 = H4980 m 13 := (f5013 m 13 _ gm rfl)
      have k5023 : H5008 x 8 = H4980 x 8 := (f5013 x 8 _ gx rfl)
      have k5024 : H5008 m 3 = H4980 m 3 := (f5013 m 3 _ gm rfl)
      have k5025 : H5008 x 0 = H x 0 := ((f5013 x 0 _ gx rfl).trans (f4985 x 0 _ gx rfl))
      have q5026 : H5008 x 0 = (tc : Int) := k5025.trans e0
      have k5027 : H5008 m 5 = H m 5 := ((f5013 m 5 _ gm rfl).trans (f4985 m 5 _ gm rfl))
      have q5028 : H5008 m 5 = (tm : Int) := k5027.trans em
      have k5029 : H5008 x 6 = H x 6 := ((f5013 x 6 _ gx rfl).trans (f4985 x 6 _ gx rfl))
      have q5030 : H5008 x 6 = (cu : Int) := k5029.trans ecu
      have k5031 : H5008 x 7 = H x 7 := ((f5013 x 7 _ gx rfl).trans (f4985 x 7 _ gx rfl))
      have q5032 : H5008 x 7 = (dr : Int) := k5031.trans edr
      have h5033 : CEN T H5008 ce8 e8 d8 := (CEN_fr w4984 gce8 f5013 rfl p4988)
      have h5034 : TP T H5008 tc B := (TP_fr w4984 gtc f5013 rfl (TP_fr hW gtc f4985 rfl htc))
      have h5035 : TM T H5008 tm B := (TM_fr w4984 gtm f5013 rfl (TM_fr hW gtm f4985 rfl htm))
      have h5036 : DD T H5008 cu  := (DD_fr w4984 gcu f5013 rfl (DD_fr hW gcu f4985 rfl hcu))
      have h5037 : DD T H5008 dr  := (DD_fr w4984 gdr f5013 rfl (DD_fr hW gdr f4985 rfl hdr))
      have h5038 : DE T H5008 cu  := (DE_fr w4984 gcu f5013 rfl (DE_fr hW gcu f4985 rfl hdec))
      have h5039 : DE T H5008 dr  := (DE_fr w4984 gdr f5013 rfl (DE_fr hW gdr f4985 rfl hded))
      have h5040 : SP T H5008 x C8 := (SP_fr w4984 gx f5013 rfl (SP_fr hW gx f4985 rfl hsp))
      have h5041 : CU T H5008 cu e8 d8 n8 := (CU_fr w4984 gcu f5013 rfl (CU_fr hW gcu f4985 rfl hcu8))
      have h5042 : CY T H5008 cu (d8 0 3) g8 (H cu 17) := (CY_fr w4984 gcu f5013 rfl (CY_fr hW gcu f4985 rfl h4973))
      have k5043 : H5008 x 3 = H x 3 := ((f5013 x 3 _ gx rfl).trans (f4985 x 3 _ gx rfl))
      have q5044 : H5008 x 3 = (ce8 : Int) := k5043.trans ece8
      have h5045 : HDR T H5008 ce8  := (HDR_fr w4984 gce8 f5013 rfl (HDR_fr hW gce8 f4985 rfl hhdr8))
      have h5046 : RY T H5008 m (d8 0 3) g8 (H m 32) := (RY_fr w4984 gm f5013 rfl (RY_fr hW gm f4985 rfl h4974))
      have h5047 : RB T H5008 m e8 d8 := (RB_fr w4984 gm f5013 rfl h5004)
      exact WL.loc hX (by simp) (next T H5008 ⟨⟨w5012, g0, gx, gm, go, by omega, by omega⟩, ⟨_, tc, tm, cu, dr, _, _, _, _, _, ce8, q5026, gtc, h5034, q5028, gtm, h5035, q5030, gcu, q5032, gdr, h5036, h5037, h5038, h5039, h5040, hC1, hC2, h5041, h5047, (h5042).1, (h5046).1, hE, hZ, (by omega), (by assumption), (by omega), (by first | assumption | exact SG_0), q5044, gce8, h5033, h5045, a5018, gm⟩, by omega, by omega⟩ (by omega) (by omega))
    · exfalso
      omega
  · refine wl_of hX hb cL_1279 (rw_iconst (pc' := 1280) rfl ?_)
    refine wl_of hX hb cL_1280 (rw_goto (p1 := 1284) (by decide) ?_)
    obtain ⟨B, tc, tm, cu, dr, C8, e8, d8, n8, g8, ce8, e0, gtc, htc, em, gtm, htm, ecu, gcu, edr, gdr, hcu, hdr, hdec, hded, hsp, hC1, hC2, hcu8, hrb8, hcg8, hmn8, hE, hZ, hn8, hXA, hV8, hSG, ece8, gce8, hcen8, hhdr8, hknn8, -⟩ := hXI
    have hN3 := RB_n3 hrb8
    have hE13 : ∀ h : Nat, h < 24 → 0 ≤ e8 13 h ∧ e8 13 h ≤ 100 := fun k hk => by
      obtain ⟨s, h1, h2, h3⟩ := hcu8.1.2.2.1
      exact ⟨(h3 k hk).1, (h3 k hk).2.1⟩
    have hXW := hXA.1
    have hXN := hXA.2
    have hE0 : e8 0 3 = d8 0 3 ∧ e8 0 0 = d8 0 0 := by
      have h := hE 0 (by decide)
      exact ⟨congrFun h 3, congrFun h 0⟩
    have u5048 := CU_k hcu8
    have h5049 : CY T H cu (d8 0 3) g8 (H cu 17) := ⟨hcg8, rfl⟩
    have h5050 : RY T H m (d8 0 3) g8 (H m 32) := ⟨hmn8, rfl⟩
    obtain ⟨t9, ht9⟩ : ∃ t : Int, t = H x 9 := ⟨_, rfl⟩
    obtain ⟨y9, hy9⟩ : ∃ y : Int, y = 1 := ⟨_, rfl⟩
    obtain ⟨r5051, q5052, g5053⟩ := hW.ref gx (t' := 6) (n := 13) (j := 2) (p := 0) (q := 0) rfl (by decide) rfl
    refine wl_of hX hb cL_1284 (xc_V (pc' := 1287) (r := x) (as := [vI (H 0 ((i + 1).toNat)), vI 1]) (st := []) (lm_11_167) rfl rfl (Nat.le_of_ble_eq_true rfl) hW gx sh_1 (by decide) rfl (by decide) (u_146 (e := e8) (d := d8) (n := n8) hW gx ⟨by omega, by omega⟩ ⟨by decide, by decide⟩ ecu gcu q5052 g5053 ece8 gce8 (by assumption) (by assumption) (by omega) (by omega) (by omega) (by omega) hcu8 hcen8 hhdr8) (fun R5054 T5055 H5056 p5057 => ?_))
    obtain ⟨e5058, w5060, f5061, z5062, e5059, b5063, p5064⟩ := p5057
    subst e5058
    subst e5059
    show WL _ _ _ _ 1287 [(4, vI i), (3, .ref o), (2, .ref m), (1, .ref x), (0, .ref 0)] [vI z5062] _ H5056
    refine wl_of hX hb cL_1287 (rw_pop (pc' := 1288) rfl rfl ?_)
    refine wl_of hX hb cL_1288 (rw_aload_n (pc' := 1289) (v := .ref m) rfl rfl rfl ?_)
    refine wl_of hX hb cL_1289 (rw_aload_n (pc' := 1290) (v := .ref 0) rfl rfl rfl ?_)
    refine wl_of hX hb cL_1290 (rw_iload (pc' := 1292) (z := i) rfl rfl ?_)
    refine wl_of hX hb cL_1292 (rw_iconst (pc' := 1293) rfl ?_)
    refine wl_of hX hb cL_1293 (rw_iadd (pc' := 1294) rfl ?_)
    have k5068 : H5056 0 ((i + 1).toNat) = H 0 ((i + 1).toNat) := (f5061 0 ((i + 1).toNat) _ g0 (wmem_s rfl))
    refine wl_of hX hb cL_1294 (xa_I (so := 0) (pc' := 1295) (a := 0) w5060 g0 (wsh_s _) (by omega) (wty_s _ _) (by omega) (by omega) rfl (fun b5066 b5067 => ?_))
    refine wl_of hX hb cL_1295 (rw_aload_n (pc' := 1296) (v := .ref 0) rfl rfl rfl ?_)
    refine wl_of hX hb cL_1296 (rw_iload (pc' := 1298) (z := i) rfl rfl ?_)
    refine wl_of hX hb cL_1298 (rw_iconst (pc' := 1299) rfl ?_)
    refine wl_of hX hb cL_1299 (rw_iadd (pc' := 1300) rfl ?_)
    have k5071 : H5056 0 ((i + 2).toNat) = H 0 ((i + 2).toNat) := (f5061 0 ((i + 2).toNat) _ g0 (wmem_s rfl))
    refine wl_of hX hb cL_1300 (xa_I (so := 0) (pc' := 1301) (a := 0) w5060 g0 (wsh_s _) (by omega) (wty_s _ _) (by omega) (by omega) rfl (fun b5069 b5070 => ?_))
    refine wl_of hX hb cL_1301 (rw_if_eq (p1 := 1308) (p2 := 1304) (by decide) rfl ⟨by omega, by omega⟩ (fun c5072 => ?_) (fun c5072 => ?_))
    · exfalso
      omega
    · refine wl_of hX hb cL_1304 (rw_iconst (pc' := 1305) rfl ?_)
      refine wl_of hX hb cL_1305 (rw_goto (p1 := 1309) (by decide) ?_)
      have k5124 : wKI H5056 m = wKI H m := (wKI_fr hW gm f5061 rfl)
      have k5125 : H5056 x 9 = H x 9 := (f5061 x 9 _ gx rfl)
      have k5126 : H5056 m 6 = H m 6 := (f5061 m 6 _ gm rfl)
      have k5127 : H5056 x 11 = H x 11 := (f5061 x 11 _ gx rfl)
      have k5128 : H5056 m 13 = H m 13 := (f5061 m 13 _ gm rfl)
      have k5129 : H5056 x 8 = H x 8 := (f5061 x 8 _ gx rfl)
      have k5130 : H5056 m 3 = H m 3 := (f5061 m 3 _ gm rfl)
      rw [show H5056 0 ((i + 1).toNat) = H 0 ((i + 1).toNat) by omega]
      have h5131 : RB T H5056 m e8 d8 := (RB_fr hW gm f5061 rfl hrb8)
      have h5132 : KNN T H5056 m e8 d8 := (KNN_fr hW gm f5061 rfl hknn8)
      refine wl_of hX hb cL_1309 (xc_V (pc' := 1312) (r := m) (as := [vI (H 0 ((i + 1).toNat)), vI 1]) (st := []) (lm_11_170) rfl rfl (Nat.le_of_ble_eq_true rfl) w5060 gm sh_42 (by decide) rfl (by decide) (u_279 (e := e8) (d := d8) w5060 gm ⟨by omega, by omega⟩ ⟨by decide, by decide⟩ (by omega) (by assumption) (by assumption) (by assumption) (by assumption) h5131 h5132) (fun R5133 T5134 H5135 p5136 => ?_))
      obtain ⟨e5137, w5139, f5140, z5141, e5138, b5142, p5143⟩ := p5136
      subst e5137
      subst e5138
      obtain ⟨a5144, a5145⟩ := p5143
      show WL _ _ _ _ 1312 [(4, vI i), (3, .ref o), (2, .ref m), (1, .ref x), (0, .ref 0)] [vI z5141] _ H5135
      refine wl_of hX hb cL_1312 (rw_pop (pc' := 1313) rfl rfl ?_)
      refine wl_of hX hb cL_1313 (rw_goto (p1 := 1653) (by decide) ?_)
      have k5146 : H5135 x 9 = H5056 x 9 := (f5140 x 9 _ gx rfl)
      have k5147 : H5135 m 6 = H5056 m 6 := (f5140 m 6 _ gm rfl)
      have k5148 : H5135 x 11 = H5056 x 11 := (f5140 x 11 _ gx rfl)
      have k5149 : H5135 m 13 = H5056 m 13 := (f5140 m 13 _ gm rfl)
      have k5150 : H5135 x 8 = H5056 x 8 := (f5140 x 8 _ gx rfl)
      have k5151 : H5135 m 3 = H5056 m 3 := (f5140 m 3 _ gm rfl)
      have k5152 : H5135 x 0 = H x 0 := ((f5140 x 0 _ gx rfl).trans (f5061 x 0 _ gx rfl))
      have q5153 : H5135 x 0 = (tc : Int) := k5152.trans e0
      have k5154 : H5135 m 5 = H m 5 := ((f5140 m 5 _ gm rfl).trans (f5061 m 5 _ gm rfl))
      have q5155 : H5135 m 5 = (tm : Int) := k5154.trans em
      have k5156 : H5135 x 6 = H x 6 := ((f5140 x 6 _ gx rfl).trans (f5061 x 6 _ gx rfl))
      have q5157 : H5135 x 6 = (cu : Int) := k5156.trans ecu
      have k5158 : H5135 x 7 = H x 7 := ((f5140 x 7 _ gx rfl).trans (f5061 x 7 _ gx rfl))
      have q5159 : H5135 x 7 = (dr : Int) := k5158.trans edr
      have h5160 : CEN T H5135 ce8 e8 d8 := (CEN_fr w5060 gce8 f5140 rfl p5064)
      have h5161 : TP T H5135 tc B := (TP_fr w5060 gtc f5140 rfl (TP_fr hW gtc f5061 rfl htc))
      have h5162 : TM T H5135 tm B := (TM_fr w5060 gtm f5140 rfl (TM_fr hW gtm f5061 rfl htm))
      have h5163 : DD T H5135 cu  := (DD_fr w5060 gcu f5140 rfl (DD_fr hW gcu f5061 rfl hcu))
      have h5164 : DD T H5135 dr  := (DD_fr w5060 gdr f5140 rfl (DD_fr hW gdr f5061 rfl hdr))
      have h5165 : DE T H5135 cu  := (DE_fr w5060 gcu f5140 rfl (DE_fr hW gcu f5061 rfl hdec))
      have h5166 : DE T H5135 dr  := (DE_fr w5060 gdr f5140 rfl (DE_fr hW gdr f5061 rfl hded))
      have h5167 : SP T H5135 x C8 := (SP_fr w5060 gx f5140 rfl (SP_fr hW gx f5061 rfl hsp))
      have h5168 : CU T H5135 cu e8 d8 n8 := (CU_fr w5060 gcu f5140 rfl (CU_fr hW gcu f5061 rfl hcu8))
      have h5169 : CY T H5135 cu (d8 0 3) g8 (H cu 17) := (CY_fr w5060 gcu f5140 rfl (CY_fr hW gcu f5061 rfl h5049))
      have k5170 : H5135 x 3 = H x 3 := ((f5140 x 3 _ gx rfl).trans (f5061 x 3 _ gx rfl))
      have q5171 : H5135 x 3 = (ce8 : Int) := k5170.trans ece8
      have h5172 : HDR T H5135 ce8  := (HDR_fr w5060 gce8 f5140 rfl (HDR_fr hW gce8 f5061 rfl hhdr8))
      have h5173 : RY T H5135 m (d8 0 3) g8 (H m 32) := (RY_fr w5060 gm f5140 rfl (RY_fr hW gm f5061 rfl h5050))
      have h5174 : RB T H5135 m e8 d8 := (RB_fr w5060 gm f5140 rfl h5131)
      exact WL.loc hX (by simp) (next T H5135 ⟨⟨w5139, g0, gx, gm, go, by omega, by omega⟩, ⟨_, tc, tm, cu, dr, _, _, _, _, _, ce8, q5153, gtc, h5161, q5155, gtm, h5162, q5157, gcu, q5159, gdr, h5163, h5164, h5165, h5166, h5167, hC1, hC2, h5168, h5174, (h5169).1, (h5173).1, hE, hZ, (by omega), (by assumption), (by omega), (by first | assumption | exact SG_0), q5171, gce8, h5160, h5172, a5145, gm⟩, by omega, by omega⟩ (by omega) (by omega))
