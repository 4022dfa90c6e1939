/-! THE LAW, GONE ON WITH (own work) -/
set_option maxHeartbeats 4000000 in
theorem wl_c29 {kt : Nat → Option mc_E} {CB SB : Nat} {X : mc_S → Prop} {T : wq_T} {H : wq_H} {Len x m o : Nat} {i : Int} (hX : wlX kt CB SB X) (hb : T.2.1 ≤ CB ∧ T.2.2.1 ≤ SB) (hI : wlJ Len x m o T H) (hL : Len ≤ 3072) (hi : 0 ≤ i ∧ i + 6 ≤ Len) (hb2 : T.2.1 + 20 ≤ CB ∧ T.2.2.1 + 500 ≤ SB)  (next : ∀ T' H', wlJ Len x m o T' H' → T'.2.1 ≤ T.2.1 + 20 → T'.2.2.1 ≤ T.2.2.1 + 500 → WL kt CB SB X 1653 (wlL i x m o) [] T' H') : WL kt CB SB X 1109 (wlL i x m o) [] T H := by
  obtain ⟨⟨hW, g0, gx, gm, go, hK, hr⟩, hXI, hY1, hY2⟩ := hI
  refine wl_of hX hb cL_1109 (rw_aload_n (pc' := 1110) (v := .ref x) rfl rfl rfl ?_)
  refine wl_of hX hb cL_1110 (rw_aload_n (pc' := 1111) (v := .ref 0) rfl rfl rfl ?_)
  refine wl_of hX hb cL_1111 (rw_iload (pc' := 1113) (z := i) rfl rfl ?_)
  refine wl_of hX hb cL_1113 (rw_iconst (pc' := 1114) rfl ?_)
  refine wl_of hX hb cL_1114 (rw_iadd (pc' := 1115) rfl ?_)
  refine wl_of hX hb cL_1115 (xa_I (so := 0) (pc' := 1116) (a := 0) hW g0 (wsh_s _) (by omega) (wty_s _ _) (by omega) (by omega) rfl (fun b4569 b4570 => ?_))
  refine wl_of hX hb cL_1116 (rw_aload_n (pc' := 1117) (v := .ref 0) rfl rfl rfl ?_)
  refine wl_of hX hb cL_1117 (rw_iload (pc' := 1119) (z := i) rfl rfl ?_)
  refine wl_of hX hb cL_1119 (rw_iconst (pc' := 1120) rfl ?_)
  refine wl_of hX hb cL_1120 (rw_iadd (pc' := 1121) rfl ?_)
  refine wl_of hX hb cL_1121 (xa_I (so := 0) (pc' := 1122) (a := 0) hW g0 (wsh_s _) (by omega) (wty_s _ _) (by omega) (by omega) rfl (fun b4571 b4572 => ?_))
  refine wl_of hX hb cL_1122 (rw_if_eq (p1 := 1129) (p2 := 1125) (by decide) rfl ⟨by omega, by omega⟩ (fun c4573 => ?_) (fun c4573 => ?_))
  · refine wl_of hX hb cL_1129 (rw_iconst (pc' := 1130) rfl ?_)
    obtain ⟨B, tc, tm, cu, dr, C8, e8, d8, n8, g8, ce8, e0, gtc, htc, em, gtm, htm, ecu, gcu, edr, gdr, hcu, hdr, hdec, hded, hsp, hC1, hC2, hcu8, hrb8, hcg8, hmn8, hE, hZ, hn8, hXA, hV8, hSG, ece8, gce8, hcen8, hhdr8, hknn8, -⟩ := hXI
    have hN3 := RB_n3 hrb8
    have hE13 : ∀ h : Nat, h < 24 → 0 ≤ e8 13 h ∧ e8 13 h ≤ 100 := fun k hk => by
      obtain ⟨s, h1, h2, h3⟩ := hcu8.1.2.2.1
      exact ⟨(h3 k hk).1, (h3 k hk).2.1⟩
    have hXW := hXA.1
    have hXN := hXA.2
    have hE0 : e8 0 3 = d8 0 3 ∧ e8 0 0 = d8 0 0 := by
      have h := hE 0 (by decide)
      exact ⟨congrFun h 3, congrFun h 0⟩
    have u4574 := CU_k hcu8
    have h4575 : CY T H cu (d8 0 3) g8 (H cu 17) := ⟨hcg8, rfl⟩
    have h4576 : RY T H m (d8 0 3) g8 (H m 32) := ⟨hmn8, rfl⟩
    obtain ⟨t9, ht9⟩ : ∃ t : Int, t = H x 9 := ⟨_, rfl⟩
    obtain ⟨y9, hy9⟩ : ∃ y : Int, y = 0 := ⟨_, rfl⟩
    obtain ⟨r4577, q4578, g4579⟩ := hW.ref gx (t' := 6) (n := 13) (j := 2) (p := 0) (q := 0) rfl (by decide) rfl
    refine wl_of hX hb cL_1130 (xc_V (pc' := 1133) (r := x) (as := [vI (H 0 ((i + 1).toNat)), vI 0]) (st := []) (lm_11_143) rfl rfl (Nat.le_of_ble_eq_true rfl) hW gx sh_1 (by decide) rfl (by decide) (u_119 (e := e8) (d := d8) (n := n8) hW gx ⟨by omega, by omega⟩ ⟨by decide, by decide⟩ ecu gcu q4578 g4579 ece8 gce8 (by assumption) (by assumption) (by omega) (by omega) (by omega) (by omega) hcu8 hcen8 hhdr8) (fun R4580 T4581 H4582 p4583 => ?_))
    obtain ⟨e4584, w4586, f4587, z4588, e4585, b4589, p4590⟩ := p4583
    subst e4584
    subst e4585
    show WL _ _ _ _ 1133 [(4, vI i), (3, .ref o), (2, .ref m), (1, .ref x), (0, .ref 0)] [vI z4588] _ H4582
    refine wl_of hX hb cL_1133 (rw_pop (pc' := 1134) rfl rfl ?_)
    refine wl_of hX hb cL_1134 (rw_aload_n (pc' := 1135) (v := .ref m) rfl rfl rfl ?_)
    refine wl_of hX hb cL_1135 (rw_aload_n (pc' := 1136) (v := .ref 0) rfl rfl rfl ?_)
    refine wl_of hX hb cL_1136 (rw_iload (pc' := 1138) (z := i) rfl rfl ?_)
    refine wl_of hX hb cL_1138 (rw_iconst (pc' := 1139) rfl ?_)
    refine wl_of hX hb cL_1139 (rw_iadd (pc' := 1140) rfl ?_)
    have k4594 : H4582 0 ((i + 1).toNat) = H 0 ((i + 1).toNat) := (f4587 0 ((i + 1).toNat) _ g0 (wmem_s rfl))
    refine wl_of hX hb cL_1140 (xa_I (so := 0) (pc' := 1141) (a := 0) w4586 g0 (wsh_s _) (by omega) (wty_s _ _) (by omega) (by omega) rfl (fun b4592 b4593 => ?_))
    refine wl_of hX hb cL_1141 (rw_aload_n (pc' := 1142) (v := .ref 0) rfl rfl rfl ?_)
    refine wl_of hX hb cL_1142 (rw_iload (pc' := 1144) (z := i) rfl rfl ?_)
    refine wl_of hX hb cL_1144 (rw_iconst (pc' := 1145) rfl ?_)
    refine wl_of hX hb cL_1145 (rw_iadd (pc' := 1146) rfl ?_)
    have k4597 : H4582 0 ((i + 2).toNat) = H 0 ((i + 2).toNat) := (f4587 0 ((i + 2).toNat) _ g0 (wmem_s rfl))
    refine wl_of hX hb cL_1146 (xa_I (so := 0) (pc' := 1147) (a := 0) w4586 g0 (wsh_s _) (by omega) (wty_s _ _) (by omega) (by omega) rfl (fun b4595 b4596 => ?_))
    refine wl_of hX hb cL_1147 (rw_if_eq (p1 := 1154) (p2 := 1150) (by decide) rfl ⟨by omega, by omega⟩ (fun c4598 => ?_) (fun c4598 => ?_))
    · refine wl_of hX hb cL_1154 (rw_iconst (pc' := 1155) rfl ?_)
      have k4599 : wKI H4582 m = wKI H m := (wKI_fr hW gm f4587 rfl)
      have k4600 : H4582 x 9 = H x 9 := (f4587 x 9 _ gx rfl)
      have k4601 : H4582 m 6 = H m 6 := (f4587 m 6 _ gm rfl)
      have k4602 : H4582 x 11 = H x 11 := (f4587 x 11 _ gx rfl)
      have k4603 : H4582 m 13 = H m 13 := (f4587 m 13 _ gm rfl)
      have k4604 : H4582 x 8 = H x 8 := (f4587 x 8 _ gx rfl)
      have k4605 : H4582 m 3 = H m 3 := (f4587 m 3 _ gm rfl)
      rw [show H4582 0 ((i + 1).toNat) = H 0 ((i + 1).toNat) by omega]
      have h4606 : RB T H4582 m e8 d8 := (RB_fr hW gm f4587 rfl hrb8)
      have h4607 : KNN T H4582 m e8 d8 := (KNN_fr hW gm f4587 rfl hknn8)
      refine wl_of hX hb cL_1155 (xc_V (pc' := 1158) (r := m) (as := [vI (H 0 ((i + 1).toNat)), vI 0]) (st := []) (lm_11_146) rfl rfl (Nat.le_of_ble_eq_true rfl) w4586 gm sh_42 (by decide) rfl (by decide) (u_265 (e := e8) (d := d8) w4586 gm ⟨by omega, by omega⟩ ⟨by decide, by decide⟩ (by omega) (by assumption) (by assumption) (by assumption) (by assumption) h4606 h4607) (fun R4608 T4609 H4610 p4611 => ?_))
      obtain ⟨e4612, w4614, f4615, z4616, e4613, b4617, p4618⟩ := p4611
      subst e4612
      subst e4613
      obtain ⟨a4619, a4620⟩ := p4618
      show WL _ _ _ _ 1158 [(4, vI i), (3, .ref o), (2, .ref m), (1, .ref x), (0, .ref 0)] [vI z4616] _ H4610
      refine wl_of hX hb cL_1158 (rw_pop (pc' := 1159) rfl rfl ?_)
      refine wl_of hX hb cL_1159 (rw_goto (p1 := 1653) (by decide) ?_)
      have k4621 : H4610 x 9 = H4582 x 9 := (f4615 x 9 _ gx rfl)
      have k4622 : H4610 m 6 = H4582 m 6 := (f4615 m 6 _ gm rfl)
      have k4623 : H4610 x 11 = H4582 x 11 := (f4615 x 11 _ gx rfl)
      have k4624 : H4610 m 13 = H4582 m 13 := (f4615 m 13 _ gm rfl)
      have k4625 : H4610 x 8 = H4582 x 8 := (f4615 x 8 _ gx rfl)
      have k4626 : H4610 m 3 = H4582 m 3 := (f4615 m 3 _ gm rfl)
      have k4627 : H4610 x 0 = H x 0 := ((f4615 x 0 _ gx rfl).trans (f4587 x 0 _ gx rfl))
      have q4628 : H4610 x 0 = (tc : Int) := k4627.trans e0
      have k4629 : H4610 m 5 = H m 5 := ((f4615 m 5 _ gm rfl).trans (f4587 m 5 _ gm rfl))
      have q4630 : H4610 m 5 = (tm : Int) := k4629.trans em
      have k4631 : H4610 x 6 = H x 6 := ((f4615 x 6 _ gx rfl).trans (f4587 x 6 _ gx rfl))
      have q4632 : H4610 x 6 = (cu : Int) := k4631.trans ecu
      have k4633 : H4610 x 7 = H x 7 := ((f4615 x 7 _ gx rfl).trans (f4587 x 7 _ gx rfl))
      have q4634 : H4610 x 7 = (dr : Int) := k4633.trans edr
      have h4635 : TP T H4610 tc B := (TP_fr w4586 gtc f4615 rfl (TP_fr hW gtc f4587 rfl htc))
      have h4636 : TM T H4610 tm B := (TM_fr w4586 gtm f4615 rfl (TM_fr hW gtm f4587 rfl htm))
      have h4637 : DD T H4610 cu  := (DD_fr w4586 gcu f4615 rfl (DD_fr hW gcu f4587 rfl hcu))
      have h4638 : DD T H4610 dr  := (DD_fr w4586 gdr f4615 rfl (DD_fr hW gdr f4587 rfl hdr))
      have h4639 : DE T H4610 cu  := (DE_fr w4586 gcu f4615 rfl (DE_fr hW gcu f4587 rfl hdec))
      have h4640 : DE T H4610 dr  := (DE_fr w4586 gdr f4615 rfl (DE_fr hW gdr f4587 rfl hded))
      have h4641 : SP T H4610 x C8 := (SP_fr w4586 gx f4615 rfl (SP_fr hW gx f4587 rfl hsp))
      have h4642 : CU T H4610 cu e8 d8 n8 := (CU_fr w4586 gcu f4615 rfl (CU_fr hW gcu f4587 rfl hcu8))
      have h4643 : CY T H4610 cu (d8 0 3) g8 (H cu 17) := (CY_fr w4586 gcu f4615 rfl (CY_fr hW gcu f4587 rfl h4575))
      have k4644 : H4610 x 3 = H x 3 := ((f4615 x 3 _ gx rfl).trans (f4587 x 3 _ gx rfl))
      have q4645 : H4610 x 3 = (ce8 : Int) := k4644.trans ece8
      have h4646 : CEN T H4610 ce8 e8 d8 := (CEN_fr w4586 gce8 f4615 rfl p4590)
      have h4647 : HDR T H4610 ce8  := (HDR_fr w4586 gce8 f4615 rfl (HDR_fr hW gce8 f4587 rfl hhdr8))
      have h4648 : RY T H4610 m (d8 0 3) g8 (H m 32) := (RY_fr w4586 gm f4615 rfl (RY_fr hW gm f4587 rfl h4576))
      have h4649 : RB T H4610 m e8 d8 := (RB_fr w4586 gm f4615 rfl h4606)
      exact WL.loc hX (by simp) (next T H4610 ⟨⟨w4614, g0, gx, gm, go, by omega, by omega⟩, ⟨_, tc, tm, cu, dr, _, _, _, _, _, ce8, q4628, gtc, h4635, q4630, gtm, h4636, q4632, gcu, q4634, gdr, h4637, h4638, h4639, h4640, h4641, hC1, hC2, h4642, h4649, (h4643).1, (h4648).1, hE, hZ, (by omega), (by assumption), (by omega), (by first | assumption | exact SG_0), q4645, gce8, h4646, h4647, a4620, gm⟩, by omega, by omega⟩ (by omega) (by omega))
    · exfalso
      omega
  · refine wl_of hX hb cL_1125 (rw_iconst (pc' := 1126) rfl ?_)
    refine wl_of hX hb cL_1126 (rw_goto (p1 := 1130) (by decide) ?_)
    obtain ⟨B, tc, tm, cu, dr, C8, e8, d8, n8, g8, ce8, e0, gtc, htc, em, gtm, htm, ecu, gcu, edr, gdr, hcu, hdr, hdec, hded, hsp, hC1, hC2, hcu8, hrb8, hcg8, hmn8, hE, hZ, hn8, hXA, hV8, hSG, ece8, gce8, hcen8, hhdr8, hknn8, -⟩ := hXI
    have hN3 := RB_n3 hrb8
    have hE13 : ∀ h : Nat, h < 24 → 0 ≤ e8 13 h ∧ e8 13 h ≤ 100 := fun k hk => by
      obtain ⟨s, h1, h2, h3⟩ := hcu8.1.2.2.1
      exact ⟨(h3 k hk).1, (h3 k hk).2.1⟩
    have hXW := hXA.1
    have hXN := hXA.2
    have hE0 : e8 0 3 = d8 0 3 ∧ e8 0 0 = d8 0 0 := by
      have h := hE 0 (by decide)
      exact ⟨congrFun h 3, congrFun h 0⟩
    have u4650 := CU_k hcu8
    have h4651 : CY T H cu (d8 0 3) g8 (H cu 17) := ⟨hcg8, rfl⟩
    have h4652 : RY T H m (d8 0 3) g8 (H m 32) := ⟨hmn8, rfl⟩
    obtain ⟨t9, ht9⟩ : ∃ t : Int, t = H x 9 := ⟨_, rfl⟩
    obtain ⟨y9, hy9⟩ : ∃ y : Int, y = 1 := ⟨_, rfl⟩
    obtain ⟨r4653, q4654, g4655⟩ := hW.ref gx (t' := 6) (n := 13) (j := 2) (p := 0) (q := 0) rfl (by decide) rfl
    refine wl_of hX hb cL_1130 (xc_V (pc' := 1133) (r := x) (as := [vI (H 0 ((i + 1).toNat)), vI 1]) (st := []) (lm_11_143) rfl rfl (Nat.le_of_ble_eq_true rfl) hW gx sh_1 (by decide) rfl (by decide) (u_119 (e := e8) (d := d8) (n := n8) hW gx ⟨by omega, by omega⟩ ⟨by decide, by decide⟩ ecu gcu q4654 g4655 ece8 gce8 (by assumption) (by assumption) (by omega) (by omega) (by omega) (by omega) hcu8 hcen8 hhdr8) (fun R4656 T4657 H4658 p4659 => ?_))
    obtain ⟨e4660, w4662, f4663, z4664, e4661, b4665, p4666⟩ := p4659
    subst e4660
    subst e4661
    show WL _ _ _ _ 1133 [(4, vI i), (3, .ref o), (2, .ref m), (1, .ref x), (0, .ref 0)] [vI z4664] _ H4658
    refine wl_of hX hb cL_1133 (rw_pop (pc' := 1134) rfl rfl ?_)
    refine wl_of hX hb cL_1134 (rw_aload_n (pc' := 1135) (v := .ref m) rfl rfl rfl ?_)
    refine wl_of hX hb cL_1135 (rw_aload_n (pc' := 1136) (v := .ref 0) rfl rfl rfl ?_)
    refine wl_of hX hb cL_1136 (rw_iload (pc' := 1138) (z := i) rfl rfl ?_)
    refine wl_of hX hb cL_1138 (rw_iconst (pc' := 1139) rfl ?_)
    refine wl_of hX hb cL_1139 (rw_iadd (pc' := 1140) rfl ?_)
    have k4670 : H4658 0 ((i + 1).toNat) = H 0 ((i + 1).toNat) := (f4663 0 ((i + 1).toNat) _ g0 (wmem_s rfl))
    refine wl_of hX hb cL_1140 (xa_I (so := 0) (pc' := 1141) (a := 0) w4662 g0 (wsh_s _) (by omega) (wty_s _ _) (by omega) (by omega) rfl (fun b4668 b4669 => ?_))
    refine wl_of hX hb cL_1141 (rw_aload_n (pc' := 1142) (v := .ref 0) rfl rfl rfl ?_)
    refine wl_of hX hb cL_1142 (rw_iload (pc' := 1144) (z := i) rfl rfl ?_)
    refine wl_of hX hb cL_1144 (rw_iconst (pc' := 1145) rfl ?_)
    refine wl_of hX hb cL_1145 (rw_iadd (pc' := 1146) rfl ?_)
    have k4673 : H4658 0 ((i + 2).toNat) = H 0 ((i + 2).toNat) := (f4663 0 ((i + 2).toNat) _ g0 (wmem_s rfl))
    refine wl_of hX hb cL_1146 (xa_I (so := 0) (pc' := 1147) (a := 0) w4662 g0 (wsh_s _) (by omega) (wty_s _ _) (by omega) (by omega) rfl (fun b4671 b4672 => ?_))
    refine wl_of hX hb cL_1147 (rw_if_eq (p1 := 1154) (p2 := 1150) (by decide) rfl ⟨by omega, by omega⟩ (fun c4674 => ?_) (fun c4674 => ?_))
    · refine wl_of hX hb cL_1154 (rw_iconst (pc' := 1155) rfl ?_)
      have k4675 : wKI H4658 m = wKI H m := (wKI_fr hW gm f4663 rfl)
      have k4676 : H4658 x 9 = H x 9 := (f4663 x 9 _ gx rfl)
      have k4677 : H4658 m 6 = H m 6 := (f4663 m 6 _ gm rfl)
      have k4678 : H4658 x 11 = H x 11 := (f4663 x 11 _ gx rfl)
      have k4679 : H4658 m 13 = H m 13 := (f4663 m 13 _ gm rfl)
      have k4680 : H4658 x 8 = H x 8 := (f4663 x 8 _ gx rfl)
      have k4681 : H4658 m 3 = H m 3 := (f4663 m 3 _ gm rfl)
      rw [show H4658 0 ((i + 1).toNat) = H 0 ((i + 1).toNat) by omega]
      have h4682 : RB T H4658 m e8 d8 := (RB_fr hW gm f4663 rfl hrb8)
      have h4683 : KNN T H4658 m e8 d8 := (KNN_fr hW gm f4663 rfl hknn8)
      refine wl_of hX hb cL_1155 (xc_V (pc' := 1158) (r := m) (as := [vI (H 0 ((i + 1).toNat)), vI 0]) (st := []) (lm_11_146) rfl rfl (Nat.le_of_ble_eq_true rfl) w4662 gm sh_42 (by decide) rfl (by decide) (u_265 (e := e8) (d := d8) w4662 gm ⟨by omega, by omega⟩ ⟨by decide, by decide⟩ (by omega) (by assumption) (by assumption) (by assumption) (by assumption) h4682 h4683) (fun R4684 T4685 H4686 p4687 => ?_))
      obtain ⟨e4688, w4690, f4691, z4692, e4689, b4693, p4694⟩ := p4687
      subst e4688
      subst e4689
      obtain ⟨a4695, a4696⟩ := p4694
      show WL _ _ _ _ 1158 [(4, vI i), (3, .ref o), (2, .ref m), (1, .ref x), (0, .ref 0)] [vI z4692] _ H4686
      refine wl_of hX hb cL_1158 (rw_pop (pc' := 1159) rfl rfl ?_)
      refine wl_of hX hb cL_1159 (rw_goto (p1 := 1653) (by decide) ?_)
      have k4697 : H4686 x 9 = H4658 x 9 := (f4691 x 9 _ gx rfl)
      have k4698 : H4686 m 6 = H4658 m 6 := (f4691 m 6 _ gm rfl)
      have k4699 : H4686 x 11 = H4658 x 11 := (f4691 x 11 _ gx rfl)
      have k4700 : H4686 m 13 = H4658 m 13 := (f4691 m 13 _ gm rfl)
      have k4701 : H4686 x 8 = H4658 x 8 := (f4691 x 8 _ gx rfl)
      have k4702 : H4686 m 3 = H4658 m 3 := (f4691 m 3 _ gm rfl)
      have k4703 : H4686 x 0 = H x 0 := ((f4691 x 0 _ gx rfl).trans (f4663 x 0 _ gx rfl))
      have q4704 : H4686 x 0 = (tc : Int) := k4703.trans e0
      have k4705 : H4686 m 5 = H m 5 := ((f4691 m 5 _ gm rfl).trans (f4663 m 5 _ gm rfl))
      have q4706 : H4686 m 5 = (tm : Int) := k4705.trans em
      have k4707 : H4686 x 6 = H x 6 := ((f4691 x 6 _ gx rfl).trans (f4663 x 6 _ gx rfl))
      have q4708 : H4686 x 6 = (cu : Int) := k4707.trans ecu
      have k4709 : H4686 x 7 = H x 7 := ((f4691 x 7 _ gx rfl).trans (f4663 x 7 _ gx rfl))
      have q4710 : H4686 x 7 = (dr : Int) := k4709.trans edr
      have h4711 : TP T H4686 tc B := (TP_fr w4662 gtc f4691 rfl (TP_fr hW gtc f4663 rfl htc))
      have h4712 : TM T H4686 tm B := (TM_fr w4662 gtm f4691 rfl (TM_fr hW gtm f4663 rfl htm))
      have h4713 : DD T H4686 cu  := (DD_fr w4662 gcu f4691 rfl (DD_fr hW gcu f4663 rfl hcu))
      have h4714 : DD T H4686 dr  := (DD_fr w4662 gdr f4691 rfl (DD_fr hW gdr f4663 rfl hdr))
      have h4715 : DE T H4686 cu  := (DE_fr w4662 gcu f4691 rfl (DE_fr hW gcu f4663 rfl hdec))
      have h4716 : DE T H4686 dr  := (DE_fr w4662 gdr f4691 rfl (DE_fr hW gdr f4663 rfl hded))
      have h4717 : SP T H4686 x C8 := (SP_fr w4662 gx f4691 rfl (SP_fr hW gx f4663 rfl hsp))
      have h4718 : CU T H4686 cu e8 d8 n8 := (CU_fr w4662 gcu f4691 rfl (CU_fr hW gcu f4663 rfl hcu8))
      have h4719 : CY T H4686 cu (d8 0 3) g8 (H cu 17) := (CY_fr w4662 gcu f4691 rfl (CY_fr hW gcu f4663 rfl h4651))
      have k4720 : H4686 x 3 = H x 3 := ((f4691 x 3 _ gx rfl).trans (f4663 x 3 _ gx rfl))
      have q4721 : H4686 x 3 = (ce8 : Int) := k4720.trans ece8
      have h4722 : CEN T H4686 ce8 e8 d8 := (CEN_fr w4662 gce8 f4691 rfl p4666)
      have h4723 : HDR T H4686 ce8  := (HDR_fr w4662 gce8 f4691 rfl (HDR_fr hW gce8 f4663 rfl hhdr8))
      have h4724 : RY T H4686 m (d8 0 3) g8 (H m 32) := (RY_fr w4662 gm f4691 rfl (RY_fr hW gm f4663 rfl h4652))
      have h4725 : RB T H4686 m e8 d8 := (RB_fr w4662 gm f4691 rfl h4682)
      exact WL.loc hX (by simp) (next T H4686 ⟨⟨w4690, g0, gx, gm, go, by omega, by omega⟩, ⟨_, tc, tm, cu, dr, _, _, _, _, _, ce8, q4704, gtc, h4711, q4706, gtm, h4712, q4708, gcu, q4710, gdr, h4713, h4714, h4715, h4716, h4717, hC1, hC2, h4718, h4725, (h4719).1, (h4724).1, hE, hZ, (by omega), (by assumption), (by omega), (by first | assumption | exact SG_0), q4721, gce8, h4722, h4723, a4696, gm⟩, by omega, by omega⟩ (by omega) (by omega))
    · refine wl_of hX hb cL_1150 (rw_iconst (pc' := 1151) rfl ?_)
      refine wl_of hX hb cL_1151 (rw_goto (p1 := 1155) (by decide) ?_)
      have k4726 : wKI H4658 m = wKI H m := (wKI_fr hW gm f4663 rfl)
      have k4727 : H4658 x 9 = H x 9 := (f4663 x 9 _ gx rfl)
      have k4728 : H4658 m 6 = H m 6 := (f4663 m 6 _ gm rfl)
      have k4729 : H4658 x 11 = H x 11 := (f4663 x 11 _ gx rfl)
      have k4730 : H4658 m 13 = H m 13 := (f4663 m 13 _ gm rfl)
      have k4731 : H4658 x 8 = H x 8 := (f4663 x 8 _ gx rfl)
      have k4732 : H4658 m 3 = H m 3 := (f4663 m 3 _ gm rfl)
      rw [show H4658 0 ((i + 1).toNat) = H 0 ((i + 1).toNat) by omega]
      have h4733 : RB T H4658 m e8 d8 := (RB_fr hW gm f4663 rfl hrb8)
      have h4734 : KNN T H4658 m e8 d8 := (KNN_fr hW gm f4663 rfl hknn8)
      refine wl_of hX hb cL_1155 (xc_V (pc' := 1158) (r := m) (as := [vI (H 0 ((i + 1).toNat)), vI 1]) (st := []) (lm_11_146) rfl rfl (Nat.le_of_ble_eq_true rfl) w4662 gm sh_42 (by decide) rfl (by decide) (u_265 (e := e8) (d := d8) w4662 gm ⟨by omega, by omega⟩ ⟨by decide, by decide⟩ (by omega) (by assumption) (by assumption) (by assumption) (by assumption) h4733 h4734) (fun R4735 T4736 H4737 p4738 => ?_))
      obtain ⟨e4739, w4741, f4742, z4743, e4740, b4744, p4745⟩ := p4738
      subst e4739
      subst e4740
      obtain ⟨a4746, a4747⟩ := p4745
      show WL _ _ _ _ 1158 [(4, vI i), (3, .ref o), (2, .ref m), (1, .ref x), (0, .ref 0)] [vI z4743] _ H4737
      refine wl_of hX hb cL_1158 (rw_pop (pc' := 1159) rfl rfl ?_)
      refine wl_of hX hb cL_1159 (rw_goto (p1 := 1653) (by decide) ?_)
      have k4748 : H4737 x 9 = H4658 x 9 := (f4742 x 9 _ gx rfl)
      have k4749 : H4737 m 6 = H4658 m 6 := (f4742 m 6 _ gm rfl)
      have k4750 : H4737 x 11 = H4658 x 11 := (f4742 x 11 _ gx rfl)
      have k4751 : H4737 m 13 = H4658 m 13 := (f4742 m 13 _ gm rfl)
      have k4752 : H4737 x 8 = H4658 x 8 := (f4742 x 8 _ gx rfl)
      have k4753 : H4737 m 3 = H4658 m 3 := (f4742 m 3 _ gm rfl)
      have k4754 : H4737 x 0 = H x 0 := ((f4742 x 0 _ gx rfl).trans (f4663 x 0 _ gx rfl))
      have q4755 : H4737 x 0 = (tc : Int) := k4754.trans e0
      have k4756 : H4737 m 5 = H m 5 := ((f4742 m 5 _ gm rfl).trans (f4663 m 5 _ gm rfl))
      have q4757 : H4737 m 5 = (tm : Int) := k4756.trans em
      have k4758 : H4737 x 6 = H x 6 := ((f4742 x 6 _ gx rfl).trans (f4663 x 6 _ gx rfl))
      have q4759 : H4737 x 6 = (cu : Int) := k4758.trans ecu
      have k4760 : H4737 x 7 = H x 7 := ((f4742 x 7 _ gx rfl).trans (f4663 x 7 _ gx rfl))
      have q4761 : H4737 x 7 = (dr : Int) := k4760.trans edr
      have h4762 : TP T H4737 tc B := (TP_fr w4662 gtc f4742 rfl (TP_fr hW gtc f4663 rfl htc))
      have h4763 : TM T H4737 tm B := (TM_fr w4662 gtm f4742 rfl (TM_fr hW gtm f4663 rfl htm))
      have h4764 : DD T H4737 cu  := (DD_fr w4662 gcu f4742 rfl (DD_fr hW gcu f4663 rfl hcu))
      have h4765 : DD T H4737 dr  := (DD_fr w4662 gdr f4742 rfl (DD_fr hW gdr f4663 rfl hdr))
      have h4766 : DE T H4737 cu  := (DE_fr w4662 gcu f4742 rfl (DE_fr hW gcu f4663 rfl hdec))
      have h4767 : DE T H4737 dr  := (DE_fr w4662 gdr f4742 rfl (DE_fr hW gdr f4663 rfl hded))
      have h4768 : SP T H4737 x C8 := (SP_fr w4662 gx f4742 rfl (SP_fr hW gx f4663 rfl hsp))
      have h4769 : CU T H4737 cu e8 d8 n8 := (CU_fr w4662 gcu f4742 rfl (CU_fr hW gcu f4663 rfl hcu8))
      have h4770 : CY T H4737 cu (d8 0 3) g8 (H cu 17) := (CY_fr w4662 gcu f4742 rfl (CY_fr hW gcu f4663 rfl h4651))
      have k4771 : H4737 x 3 = H x 3 := ((f4742 x 3 _ gx rfl).trans (f4663 x 3 _ gx rfl))
      have q4772 : H4737 x 3 = (ce8 : Int) := k4771.trans ece8
      have h4773 : CEN T H4737 ce8 e8 d8 := (CEN_fr w4662 gce8 f4742 rfl p4666)
      have h4774 : HDR T H4737 ce8  := (HDR_fr w4662 gce8 f4742 rfl (HDR_fr hW gce8 f4663 rfl hhdr8))
      have h4775 : RY T H4737 m (d8 0 3) g8 (H m 32) := (RY_fr w4662 gm f4742 rfl (RY_fr hW gm f4663 rfl h4652))
      have h4776 : RB T H4737 m e8 d8 := (RB_fr w4662 gm f4742 rfl h4733)
      exact WL.loc hX (by simp) (next T H4737 ⟨⟨w4741, g0, gx, gm, go, by omega, by omega⟩, ⟨_, tc, tm, cu, dr, _, _, _, _, _, ce8, q4755, gtc, h4762, q4757, gtm, h4763, q4759, gcu, q4761, gdr, h4764, h4765, h4766, h4767, h4768, hC1, hC2, h4769, h4776, (h4770).1, (h4775).1, hE, hZ, (by omega), (by assumption), (by omega), (by first | assumption | exact SG_0), q4772, gce8, h4773, h4774, a4747, gm⟩, by omega, by omega⟩ (by omega) (by omega))
set_option maxHeartbeats 4000000 in
theorem wl_c30 {kt : Nat → Option mc_E} {CB SB : Nat} {X : mc_S → Prop} {T : wq_T} {H : wq_H} {Len x m o : Nat} {i : Int} (hX : wlX kt CB SB X) (hb : T.2.1 ≤ CB ∧ T.2.2.1 ≤ SB) (hI : wlJ Len x m o T H) (hL : Len ≤ 3072) (hi : 0 ≤ i ∧ i + 6 ≤ Len) (hb2 : T.2.1 + 20 ≤ CB ∧ T.2.2.1 + 500 ≤ SB)  (next : ∀ T' H', wlJ Len x m o T' H' → T'.2.1 ≤ T.2.1 + 20 → T'.2.2.1 ≤ T.2.2.1 + 500 → WL kt CB SB X 1653 (wlL i x m o) [] T' H') : WL kt CB SB X 1162 (wlL i x m o) [] T H := by
  obtain ⟨⟨hW, g0, gx, gm, go, hK, hr⟩, hXI, hY1, hY2⟩ := hI
  refine wl_of hX hb cL_1162 (rw_aload_n (pc' := 1163) (v := .ref x) rfl rfl rfl ?_)
  obtain ⟨B, tc, tm, cu, dr, C8, e8, d8, n8, g8, ce8, e0, gtc, htc, em, gtm, htm, ecu, gcu, edr, gdr, hcu, hdr, hdec, hded, hsp, hC1, hC2, hcu8, hrb8, hcg8, hmn8, hE, hZ, hn8, hXA, hV8, hSG, ece8, gce8, hcen8, hhdr8, hknn8, -⟩ := hXI
  have hN3 := RB_n3 hrb8
  have hE13 : ∀ h : Nat, h < 24 → 0 ≤ e8 13 h ∧ e8 13 h ≤ 100 := fun k hk => by
    obtain ⟨s, h1, h2, h3⟩ := hcu8.1.2.2.1
    exact ⟨(h3 k hk).1, (h3 k hk).2.1⟩
  have hXW := hXA.1
  have hXN := hXA.2
  have hE0 : e8 0 3 = d8 0 3 ∧ e8 0 0 = d8 0 0 := by
    have h := hE 0 (by decide)
    exact ⟨congrFun h 3, congrFun h 0⟩
  have u4777 := CU_k hcu8
  have h4778 : CY T H cu (d8 0 3) g8 (H cu 17) := ⟨hcg8, rfl⟩
  have h4779 : RY T H m (d8 0 3) g8 (H m 32) := ⟨hmn8, rfl⟩
  obtain ⟨t9, ht9⟩ : ∃ t : Int, t = H x 9 := ⟨_, rfl⟩
  obtain ⟨r4780, q4781, g4782⟩ := hW.ref gx (t' := 6) (n := 13) (j := 2) (p := 0) (q := 0) rfl (by decide) rfl
  refine wl_of hX hb cL_1163 (xc_V (pc' := 1166) (r := x) (as := []) (st := []) (lm_11_147) rfl rfl (Nat.le_of_ble_eq_true rfl) hW gx sh_1 (by decide) rfl (by decide) (u_120 (e := e8) (d := d8) (n := n8) hW gx ecu gcu q4781 g4782 ece8 gce8 (by assumption) (by assumption) (by omega) (by omega) (by omega) (by omega) hcu8 hcen8 hhdr8) (fun R4783 T4784 H4785 p4786 => ?_))
  obtain ⟨e4787, w4789, f4790, z4791, e4788, b4792, p4793⟩ := p4786
  subst e4787
  subst e4788
  show WL _ _ _ _ 1166 [(4, vI i), (3, .ref o), (2, .ref m), (1, .ref x), (0, .ref 0)] [vI z4791] _ H4785
  refine wl_of hX hb cL_1166 (rw_pop (pc' := 1167) rfl rfl ?_)
  refine wl_of hX hb cL_1167 (rw_aload_n (pc' := 1168) (v := .ref m) rfl rfl rfl ?_)
  have k4795 : wKI H4785 m = wKI H m := (wKI_fr hW gm f4790 rfl)
  have k4796 : H4785 x 9 = H x 9 := (f4790 x 9 _ gx rfl)
  have k4797 : H4785 m 6 = H m 6 := (f4790 m 6 _ gm rfl)
  have k4798 : H4785 x 11 = H x 11 := (f4790 x 11 _ gx rfl)
  have k4799 : H4785 m 13 = H m 13 := (f4790 m 13 _ gm rfl)
  have k4800 : H4785 x 8 = H x 8 := (f4790 x 8 _ gx rfl)
  have k4801 : H4785 m 3 = H m 3 := (f4790 m 3 _ gm rfl)
  have h4802 : RB T H4785 m e8 d8 := (RB_fr hW gm f4790 rfl hrb8)
  have h4803 : KNN T H4785 m e8 d8 := (KNN_fr hW gm f4790 rfl hknn8)
  refine wl_of hX hb cL_1168 (xc_V (pc' := 1171) (r := m) (as := []) (st := []) (lm_11_150) rfl rfl (Nat.le_of_ble_eq_true rfl) w4789 gm sh_42 (by decide) rfl (by decide) (u_266 (e := e8) (d := d8) w4789 gm (by omega) (by assumption) (by assumption) (by assumption) (by assumption) h4802 h4803) (fun R4804 T4805 H4806 p4807 => ?_))
  obtain ⟨e4808, w4810, f4811, z4812, e4809, b4813, p4814⟩ := p4807
  subst e4808
  subst e4809
  obtain ⟨a4815, a4816⟩ := p4814
  show WL _ _ _ _ 1171 [(4, vI i), (3, .ref o), (2, .ref m), (1, .ref x), (0, .ref 0)] [vI z4812] _ H4806
  refine wl_of hX hb cL_1171 (rw_pop (pc' := 1172) rfl rfl ?_)
  refine wl_of hX hb cL_1172 (rw_goto (p1 := 1653) (by decide) ?_)
  have k4817 : H4806 x 9 = H4785 x 9 := (f4811 x 9 _ gx rfl)
  have k4818 : H4806 m 6 = H4785 m 6 := (f4811 m 6 _ gm rfl)
  have k4819 : H4806 x 11 = H4785 x 11 := (f4811 x 11 _ gx rfl)
  have k4820 : H4806 m 13 = H4785 m 13 := (f4811 m 13 _ gm rfl)
  have k4821 : H4806 x 8 = H4785 x 8 := (f4811 x 8 _ gx rfl)
  have k4822 : H4806 m 3 = H4785 m 3 := (f4811 m 3 _ gm rfl)
  have k4823 : H4806 x 0 = H x 0 := ((f4811 x 0 _ gx rfl).trans (f4790 x 0 _ gx rfl))
  have q4824 : H4806 x 0 = (tc : Int) := k4823.trans e0
  have k4825 : H4806 m 5 = H m 5 := ((f4811 m 5 _ gm rfl).trans (f4790 m 5 _ gm rfl))
  have q4826 : H4806 m 5 = (tm : Int) := k4825.trans em
  have k4827 : H4806 x 6 = H x 6 := ((f4811 x 6 _ gx rfl).trans (f4790 x 6 _ gx rfl))
  have q4828 : H4806 x 6 = (cu : Int) := k4827.trans ecu
  have k4829 : H4806 x 7 = H x 7 := ((f4811 x 7 _ gx rfl).trans (f4790 x 7 _ gx rfl))
  have q4830 : H4806 x 7 = (dr : Int) := k4829.trans edr
  have h4831 : TP T H4806 tc B := (TP_fr w4789 gtc f4811 rfl (TP_fr hW gtc f4790 rfl htc))
  have h4832 : TM T H4806 tm B := (TM_fr w4789 gtm f4811 rfl (TM_fr hW gtm f4790 rfl htm))
  have h4833 : DD T H4806 cu  := (DD_fr w4789 gcu f4811 rfl (DD_fr hW gcu f4790 rfl hcu))
  have h4834 : DD T H4806 dr  := (DD_fr w4789 gdr f4811 rfl (DD_fr hW gdr f4790 rfl hdr))
  have h4835 : DE T H4806 cu  := (DE_fr w4789 gcu f4811 rfl (DE_fr hW gcu f4790 rfl hdec))
  have h4836 : DE T H4806 dr  := (DE_fr w4789 gdr f4811 rfl (DE_fr hW gdr f4790 rfl hded))
  have h4837 : SP T H4806 x C8 := (SP_fr w4789 gx f4811 rfl (SP_fr hW gx f4790 rfl hsp))
  have h4838 : CU T H4806 cu e8 d8 n8 := (CU_fr w4789 gcu f4811 rfl (CU_fr hW gcu f4790 rfl hcu8))
  have h4839 : CY T H4806 cu (d8 0 3) g8 (H cu 17) := (CY_fr w4789 gcu f4811 rfl (CY_fr hW gcu f4790 rfl h4778))
  have k4840 : H4806 x 3 = H x 3 := ((f4811 x 3 _ gx rfl).trans (f4790 x 3 _ gx rfl))
  have q4841 : H4806 x 3 = (ce8 : Int) := k4840.trans ece8
  have h4842 : CEN T H4806 ce8 e8 d8 := (CEN_fr w4789 gce8 f4811 rfl p4793)
  have h4843 : HDR T H4806 ce8  := (HDR_fr w4789 gce8 f4811 rfl (HDR_fr hW gce8 f4790 rfl hhdr8))
  have h4844 : RY T H4806 m (d8 0 3) g8 (H m 32) := (RY_fr w4789 gm f4811 rfl (RY_fr hW gm f4790 rfl h4779))
  have h4845 : RB T H4806 m e8 d8 := (RB_fr w4789 gm f4811 rfl h4802)
  exact WL.loc hX (by simp) (next T H4806 ⟨⟨w4810, g0, gx, gm, go, by omega, by omega⟩, ⟨_, tc, tm, cu, dr, _, _, _, _, _, ce8, q4824, gtc, h4831, q4826, gtm, h4832, q4828, gcu, q4830, gdr, h4833, h4834, h4835, h4836, h4837, hC1, hC2, h4838, h4845, (h4839).1, (h4844).1, hE, hZ, (by omega), (by assumption), (by omega), (by first | assumption | exact SG_0), q4841, gce8, h4842, h4843, a4816, gm⟩, by omega, by omega⟩ (by omega) (by omega))
set_option maxHeartbeats 4000000 in
theorem wl_c31 {kt : Nat → Option mc_E} {CB SB : Nat} {X : mc_S → Prop} {T : wq_T} {H : wq_H} {Len x m o : Nat} {i : Int} (hX : wlX kt CB SB X) (hb : T.2.1 ≤ CB ∧ T.2.2.1 ≤ SB) (hI : wlJ Len x m o T H) (hL : Len ≤ 3072) (hi : 0 ≤ i ∧ i + 6 ≤ Len) (hb2 : T.2.1 + 20 ≤ CB ∧ T.2.2.1 + 500 ≤ SB)  (next : ∀ T' H', wlJ Len x m o T' H' → T'.2.1 ≤ T.2.1 + 20 → T'.2.2.1 ≤ T.2.2.1 + 500 → WL kt CB SB X 1653 (wlL i x m o) [] T' H') : WL kt CB SB X 1175 (wlL i x m o) [] T H := by
  obtain ⟨⟨hW, g0, gx, gm, go, hK, hr⟩, hXI, hY1, hY2⟩ := hI
  refine wl_of hX hb cL_1175 (rw_aload_n (pc' := 1176) (v := .ref x) rfl rfl rfl ?_)
  refine wl_of hX hb cL_1176 (rw_aload_n (pc' := 1177) (v := .ref 0) rfl rfl rfl ?_)
  refine wl_of hX hb cL_1177 (rw_iload (pc' := 1179) (z := i) rfl rfl ?_)
  refine wl_of hX hb cL_1179 (rw_iconst (pc' := 1180) rfl ?_)
  refine wl_of hX hb cL_1180 (rw_iadd (pc' := 1181) rfl ?_)
  refine wl_of hX hb cL_1181 (xa_I (so := 0) (pc' := 1182) (a := 0) hW g0 (wsh_s _) (by omega) (wty_s _ _) (by omega) (by omega) rfl (fun b4846 b4847 => ?_))
  obtain ⟨B, tc, tm, cu, dr, C8, e8, d8, n8, g8, ce8, e0, gtc, htc, em, gtm, htm, ecu, gcu, edr, gdr, hcu, hdr, hdec, hded, hsp, hC1, hC2, hcu8, hrb8, hcg8, hmn8, hE, hZ, hn8, hXA, hV8, hSG, ece8, gce8, hcen8, hhdr8, hknn8, -⟩ := hXI
  have hN3 := RB_n3 hrb8
  have hE13 : ∀ h : Nat, h < 24 → 0 ≤ e8 13 h ∧ e8 13 h ≤ 100 := fun k hk => by
    obtain ⟨s, h1, h2, h3⟩ := hcu8.1.2.2.1
    exact ⟨(h3 k hk).1, (h3 k hk).2.1⟩
  have hXW := hXA.1
  have hXN := hXA.2
  have hE0 : e8 0 3 = d8 0 3 ∧ e8 0 0 = d8 0 0 := by
    have h := hE 0 (by decide)
    exact ⟨congrFun h 3, congrFun h 0⟩
  have u4848 := CU_k hcu8
  have h4849 : CY T H cu (d8 0 3) g8 (H cu 17) := ⟨hcg8, rfl⟩
  have h4850 : RY T H m (d8 0 3) g8 (H m 32) := ⟨hmn8, rfl⟩
  obtain ⟨t9, ht9⟩ : ∃ t : Int, t = H x 9 := ⟨_, rfl⟩
  obtain ⟨y9, hy9⟩ : ∃ y : Int, y = H 0 ((i + 1).toNat) := ⟨_, rfl⟩
  obtain ⟨r4851, q4852, g4853⟩ := hW.ref gx (t' := 6) (n := 13) (j := 2) (p := 0) (q := 0) rfl (by decide) rfl
  refine wl_of hX hb cL_1182 (xc_V (pc' := 1185) (r := x) (as := [vI (H 0 ((i + 1).toNat))]) (st := []) (lm_11_151) rfl rfl (Nat.le_of_ble_eq_true rfl) hW gx sh_1 (by decide) rfl (by decide) (u_130 (e := e8) (d := d8) (n := n8) hW gx ⟨by omega, by omega⟩ ecu gcu q4852 g4853 ece8 gce8 (by assumption) (by assumption) (by omega) (by omega) (by omega) (by omega) hcu8 hcen8 hhdr8) (fun R4854 T4855 H4856 p4857 => ?_))
  obtain ⟨e4858, w4860, f4861, z4862, e4859, b4863, p4864⟩ := p4857
  subst e4858
  subst e4859
  show WL _ _ _ _ 1185 [(4, vI i), (3, .ref o), (2, .ref m), (1, .ref x), (0, .ref 0)] [vI z4862] _ H4856
  refine wl_of hX hb cL_1185 (rw_pop (pc' := 1186) rfl rfl ?_)
  refine wl_of hX hb cL_1186 (rw_aload_n (pc' := 1187) (v := .ref m) rfl rfl rfl ?_)
  refine wl_of hX hb cL_1187 (rw_aload_n (pc' := 1188) (v := .ref 0) rfl rfl rfl ?_)
  refine wl_of hX hb cL_1188 (rw_iload (pc' := 1190) (z := i) rfl rfl ?_)
  refine wl_of hX hb cL_1190 (rw_iconst (pc' := 1191) rfl ?_)
  refine wl_of hX hb cL_1191 (rw_iadd (pc' := 1192) rfl ?_)
  have k4868 : H4856 0 ((i + 1).toNat) = H 0 ((i + 1).toNat) := (f4861 0 ((i + 1).toNat) _ g0 (wmem_s rfl))
  refine wl_of hX hb cL_1192 (xa_I (so := 0) (pc' := 1193) (a := 0) w4860 g0 (wsh_s _) (by omega) (wty_s _ _) (by omega) (by omega) rfl (fun b4866 b4867 => ?_))
  have k4869 : wKI H4856 m = wKI H m := (wKI_fr hW gm f4861 rfl)
  have k4870 : H4856 x 9 = H x 9 := (f4861 x 9 _ gx rfl)
  have k4871 : H4856 m 6 = H m 6 := (f4861 m 6 _ gm rfl)
  have k4872 : H4856 x 11 = H x 11 := (f4861 x 11 _ gx rfl)
  have k4873 : H4856 m 13 = H m 13 := (f4861 m 13 _ gm rfl)
  have k4874 : H4856 x 8 = H x 8 := (f4861 x 8 _ gx rfl)
  have k4875 : H4856 m 3 = H m 3 := (f4861 m 3 _ gm rfl)
  rw [show H4856 0 ((i + 1).toNat) = H 0 ((i + 1).toNat) by omega]
  have h4876 : RB T H4856 m e8 d8 := (RB_fr hW gm f4861 rfl hrb8)
  have h4877 : KNN T H4856 m e8 d8 := (KNN_fr hW gm f4861 rfl hknn8)
  refine wl_of hX hb cL_1193 (xc_V (pc' := 1196) (r := m) (as := [vI (H 0 ((i + 1).toNat))]) (st := []) (lm_11_154) rfl rfl (Nat.le_of_ble_eq_true rfl) w4860 gm sh_42 (by decide) rfl (by decide) (u_271 (e := e8) (d := d8) w4860 gm ⟨by omega, by omega⟩ (by omega) (by assumption) (by assumption) (by assumption) (by assumption) h4876 h4877) (fun R4878 T4879 H4880 p4881 => ?_))
  obtain ⟨e4882, w4884, f4885, z4886, e4883, b4887, p4888⟩ := p4881
  subst e4882
  subst e4883
  obtain ⟨a4889, a4890⟩ := p4888
  show WL _ _ _ _ 1196 [(4, vI i), (3, .ref o), (2, .ref m), (1, .ref x), (0, .ref 0)] [vI z4886] _ H4880
  refine wl_of hX hb cL_1196 (rw_pop (pc' := 1197) rfl rfl ?_)
  refine wl_of hX hb cL_1197 (rw_goto (p1 := 1653) (by decide) ?_)
  have k4891 : H4880 x 9 = H4856 x 9 := (f4885 x 9 _ gx rfl)
  have k4892 : H4880 m 6 = H4856 m 6 := (f4885 m 6 _ gm rfl)
  have k4893 : H4880 x 11 = H4856 x 11 := (f4885 x 11 _ gx rfl)
  have k4894 : H4880 m 13 = H4856 m 13 := (f4885 m 13 _ gm rfl)
  have k4895 : H4880 x 8 = H4856 x 8 := (f4885 x 8 _ gx rfl)
  have k4896 : H4880 m 3 = H4856 m 3 := (f4885 m 3 _ gm rfl)
  have k4897 : H4880 x 0 = H x 0 := ((f4885 x 0 _ gx rfl).trans (f4861 x 0 _ gx rfl))
  have q4898 : H4880 x 0 = (tc : Int) := k4897.trans e0
  have k4899 : H4880 m 5 = H m 5 := ((f4885 m 5 _ gm rfl).trans (f4861 m 5 _ gm rfl))
  have q4900 : H4880 m 5 = (tm : Int) := k4899.trans em
  have k4901 : H4880 x 6 = H x 6 := ((f4885 x 6 _ gx rfl).trans (f4861 x 6 _ gx rfl))
  have q4902 : H4880 x 6 = (cu : Int) := k4901.trans ecu
  have k4903 : H4880 x 7 = H x 7 := ((f4885 x 7 _ gx rfl).trans (f4861 x 7 _ gx rfl))
  have q4904 : H4880 x 7 = (dr : Int) := k4903.trans edr
  have h4905 : TP T H4880 tc B := (TP_fr w4860 gtc f4885 rfl (TP_fr hW gtc f4861 rfl htc))
  have h4906 : TM T H4880 tm B := (TM_fr w4860 gtm f4885 rfl (TM_fr hW gtm f4861 rfl htm))
  have h4907 : DD T H4880 cu  := (DD_fr w4860 gcu f4885 rfl (DD_fr hW gcu f4861 rfl hcu))
  have h4908 : DD T H4880 dr  := (DD_fr w4860 gdr f4885 rfl (DD_fr hW gdr f4861 rfl hdr))
  have h4909 : DE T H4880 cu  := (DE_fr w4860 gcu f4885 rfl (DE_fr hW gcu f4861 rfl hdec))
  have h4910 : DE T H4880 dr  := (DE_fr w4860 gdr f4885 rfl (DE_fr hW gdr f4861 rfl hded))
  have h4911 : SP T H4880 x C8 := (SP_fr w4860 gx f4885 rfl (SP_fr hW gx f4861 rfl hsp))
  have h4912 : CU T H4880 cu e8 d8 n8 := (CU_fr w4860 gcu f4885 rfl (CU_fr hW gcu f4861 rfl hcu8))
  have h4913 : CY T H4880 cu (d8 0 3) g8 (H cu 17) := (CY_fr w4860 gcu f4885 rfl (CY_fr hW gcu f4861 rfl h4849))
  have k4914 : H4880 x 3 = H x 3 := ((f4885 x 3 _ gx rfl).trans (f4861 x 3 _ gx rfl))
  have q4915 : H4880 x 3 = (ce8 : Int) := k4914.trans ece8
  have h4916 : CEN T H4880 ce8 e8 d8 := (CEN_fr w4860 gce8 f4885 rfl p4864)
  have h4917 : HDR T H4880 ce8  := (HDR_fr w4860 gce8 f4885 rfl (HDR_fr hW gce8 f4861 rfl hhdr8))
  have h4918 : RY T H4880 m (d8 0 3) g8 (H m 32) := (RY_fr w4860 gm f4885 rfl (RY_fr hW gm f4861 rfl h4850))
  have h4919 : RB T H4880 m e8 d8 := (RB_fr w4860 gm f4885 rfl h4876)
  exact WL.loc hX (by simp) (next T H4880 ⟨⟨w4884, g0, gx, gm, go, by omega, by omega⟩, ⟨_, tc, tm, cu, dr, _, _, _, _, _, ce8, q4898, gtc, h4905, q4900, gtm, h4906, q4902, gcu, q4904, gdr, h4907, h4908, h4909, h4910, h4911, hC1, hC2, h4912, h4919, (h4913).1, (h4918).1, hE, hZ, (by omega), (by assumption), (by omega), (by first | assumption | exact SG_0), q4915, gce8, h4916, h4917, a4890, gm⟩, by omega, by omega⟩ (by omega) (by omega))
set_option maxHeartbeats 4000000 in
theorem wl_c32 {kt : Nat → Option mc_E} {CB SB : Nat} {X : mc_S → Prop} {T : wq_T} {H : wq_H} {Len x m o : Nat} {i : Int} (hX : wlX kt CB SB X) (hb : T.2.1 ≤ CB ∧ T.2.2.1 ≤ SB) (hI : wlJ Len x m o T H) (hL : Len ≤ 3072) (hi : 0 ≤ i ∧ i + 6 ≤ Len) (hb2 : T.2.1 + 20 ≤ CB ∧ T.2.2.1 + 500 ≤ SB)  (next : ∀ T' H', wlJ Len x m o T' H' → T'.2.1 ≤ T.2.1 + 20 → T'.2.2.1 ≤ T.2.2.1 + 500 → WL kt CB SB X 1653 (wlL i x m o) [] T' H') : WL kt CB SB X 1200 (wlL i x m o) [] T H := by
  obtain ⟨⟨hW, g0, gx, gm, go, hK, hr⟩, hXI, hY1, hY2⟩ := hI
  refine wl_of hX hb cL_1200 (rw_aload_n (pc' := 1201) (v := .ref x) rfl rfl rfl ?_)
  refine wl_of hX hb cL_1201 (rw_aload_n (pc' := 1202) (v := .ref 0) rfl rfl rfl ?_)
  refine wl_of hX hb cL_1202 (rw_iload (pc' := 1204) (z := i) rfl rfl ?_)
  refine wl_of hX hb cL_1204 (rw_iconst (pc' := 1205) rfl ?_)
  refine wl_of hX hb cL_1205 (rw_iadd (pc' := 1206) rfl ?_)
  refine wl_of hX hb cL_1206 (xa_I (so := 0) (pc' := 1207) (a := 0) hW g0 (wsh_s _) (by omega) (wty_s _ _) (by omega) (by omega) rfl (fun b4920 b4921 => ?_))
  obtain ⟨B, tc, tm, cu, dr, C8, e8, d8, n8, g8, ce8, e0, gtc, htc, em, gtm, htm, ecu, gcu, edr, gdr, hcu, hdr, hdec, hded, hsp, hC1, hC2, hcu8, hrb8, hcg8, hmn8, hE, hZ, hn8, hXA, hV8, hSG, ece8, gce8, hcen8, hhdr8, hknn8, -⟩ := hXI
  have hN3 := RB_n3 hrb8
  have hE13 : ∀ h : Nat, h < 24 → 0 ≤ e8 13 h ∧ e8 13 h ≤ 100 := fun k hk => by
    obtain ⟨s, h1, h2, h3⟩ := hcu8.1.2.2.1
    exact ⟨(h3 k hk).1, (h3 k hk).2.1⟩
  have hXW := hXA.1
  have hXN := hXA.2
  have hE0 : e8 0 3 = d8 0 3 ∧ e8 0 0 = d8 0 0 := by
    have h := hE 0 (by decide)
    exact ⟨congrFun h 3, congrFun h 0⟩
  have u4922 := CU_k hcu8
  have h4923 : CY T H cu (d8 0 3) g8 (H cu 17) := ⟨hcg8, rfl⟩
  have h4924 : RY T H m (d8 0 3) g8 (H m 32) := ⟨hmn8, rfl⟩
  obtain ⟨t9, ht9⟩ : ∃ t : Int, t = H x 9 := ⟨_, rfl⟩
  obtain ⟨y9, hy9⟩ : ∃ y : Int, y = H 0 ((i + 1).toNat) := ⟨_, rfl⟩
  obtain ⟨r4925, q4926, g4927⟩ := hW.ref gx (t' := 6) (n := 13) (j := 2) (p := 0) (q := 0) rfl (by decide) rfl
  refine wl_of hX hb cL_1207 (xc_V (pc' := 1210) (r := x) (as := [vI (H 0 ((i + 1).toNat))]) (st := []) (lm_11_155) rfl rfl (Nat.le_of_ble_eq_true rfl) hW gx sh_1 (by decide) rfl (by decide) (u_132 (e := e8) (d := d8) (n := n8) hW gx ⟨by omega, by omega⟩ ecu gcu q4926 g4927 ece8 gce8 (by assumption) (by assumption) (by omega) (by omega) (by omega) (by omega) hcu8 hcen8 hhdr8) (fun R4928 T4929 H4930 p4931 => ?_))
  obtain ⟨e4932, w4934, f4935, z4936, e4933, b4937, p4938⟩ := p4931
  subst e4932
  subst e4933
  show WL _ _ _ _ 1210 [(4, vI i), (3, .ref o), (2, .ref m), (1, .ref x), (0, .ref 0)] [vI z4936] _ H4930
  refine wl_of hX hb cL_1210 (rw_pop (pc' := 1211) rfl rfl ?_)
  refine wl_of hX hb cL_1211 (rw_aload_n (pc' := 1212) (v := .ref m) rfl rfl rfl ?_)
  refine wl_of hX hb cL_1212 (rw_aload_n (pc' := 1213) (v := .ref 0) rfl rfl rfl ?_)
  refine wl_of hX hb cL_1213 (rw_iload (pc' := 1215) (z := i) rfl rfl ?_)
  refine wl_of hX hb cL_1215 (rw_iconst (pc' := 1216) rfl ?_)
  refine wl_of hX hb cL_1216 (rw_iadd (pc' := 1217) rfl ?_)
  have k4942 : H4930 0 ((i + 1).toNat) = H 0 ((i + 1).toNat) := (f4935 0 ((i + 1).toNat) _ g0 (wmem_s rfl))
  refine wl_of hX hb cL_1217 (xa_I (so := 0) (pc' := 1218) (a := 0) w4934 g0 (wsh_s _) (by omega) (wty_s _ _) (by omega) (by omega) rfl (fun b4940 b4941 => ?_))
  have k4943 : wKI H4930 m = wKI H m := (wKI_fr hW gm f4935 rfl)
  have k4944 : H4930 x 9 = H x 9 := (f4935 x 9 _ gx rfl)
  have k4945 : H4930 m 6 = H m 6 := (f4935 m 6 _ gm rfl)
  have k4946 : H4930 x 11 = H x 11 := (f4935 x 11 _ gx rfl)
  have k4947 : H4930 m 13 = H m 13 := (f4935 m 13 _ gm rfl)
  have k4948 : H4930 x 8 = H x 8 := (f4935 x 8 _ gx rfl)
  have k4949 : H4930 m 3 = H m 3 := (f4935 m 3 _ gm rfl)
  rw [show H4930 0 ((i + 1).toNat) = H 0 ((i + 1).toNat) by omega]
  have h4950 : RB T H4930 m e8 d8 := (RB_fr hW gm f4935 rfl hrb8)
  have h4951 : KNN T H4930 m e8 d8 := (KNN_fr hW gm f4935 rfl hknn8)
  refine wl_of hX hb cL_1218 (xc_V (pc' := 1221) (r := m) (as := [vI (H 0 ((i + 1).toNat))]) (st := []) (lm_11_158) rfl rfl (Nat.le_of_ble_eq_true rfl) w4934 gm sh_42 (by decide) rfl (by decide) (u_272 (e := e8) (d := d8) w4934 gm ⟨by omega, by omega⟩ (by omega) (by assumption) (by assumption) (by assumption) (by assumption) h4950 h4951) (fun R4952 T4953 H4954 p4955 => ?_))
  obtain ⟨e4956, w4958, f4959, z4960, e4957, b4961, p4962⟩ := p4955
  subst e4956
  subst e4957
  obtain ⟨a4963, a4964⟩ := p4962
  show WL _ _ _ _ 1221 [(4, vI i), (3, .ref o), (2, .ref m), (1, .ref x), (0, .ref 0)] [vI z4960] _ H4954
  refine wl_of hX hb cL_1221 (rw_pop (pc' := 1222) rfl rfl ?_)
  refine wl_of hX hb cL_1222 (rw_goto (p1 := 1653) (by decide) ?_)
  have k4965 : H4954 x 9 = H4930 x 9 := (f4959 x 9 _ gx rfl)
  have k4966 : H4954 m 6 = H4930 m 6 := (f4959 m 6 _ gm rfl)
  have k4967 : H4954 x 11 = H4930 x 11 := (f4959 x 11 _ gx rfl)
  have k4968 : H4954 m 13 = H4930 m 13 := (f4959 m 13 _ gm rfl)
  have k4969 : H4954 x 8 = H4930 x 8 := (f4959 x 8 _ gx rfl)
  have k4970 : H4954 m 3 = H4930 m 3 := (f4959 m 3 _ gm rfl)
  have k4971 : H4954 x 0 = H x 0 := ((f4959 x 0 _ gx rfl).trans (f4935 x 0 _ gx rfl))
  have q4972 : H4954 x 0 = (tc : Int) := k4971.trans e0
  have k4973 : H4954 m 5 = H m 5 := ((f4959 m 5 _ gm rfl).trans (f4935 m 5 _ gm rfl))
  have q4974 : H4954 m 5 = (tm : Int) := k4973.trans em
  have k4975 : H4954 x 6 = H x 6 := ((f4959 x 6 _ gx rfl).trans (f4935 x 6 _ gx rfl))
  have q4976 : H4954 x 6 = (cu : Int) := k4975.trans ecu
  have k4977 : H4954 x 7 = H x 7 := ((f4959 x 7 _ gx rfl).trans (f4935 x 7 _ gx rfl))
  have q4978 : H4954 x 7 = (dr : Int) := k4977.trans edr
  have h4979 : TP T H4954 tc B := (TP_fr w4934 gtc f4959 rfl (TP_fr hW gtc f4935 rfl htc))
  have h4980 : TM T H4954 tm B := (TM_fr w4934 gtm f4959 rfl (TM_fr hW gtm f4935 rfl htm))
  have h4981 : DD T H4954 cu  := (DD_fr w4934 gcu f4959 rfl (DD_fr hW gcu f4935 rfl hcu))
  have h4982 : DD T H4954 dr  := (DD_fr w4934 gdr f4959 rfl (DD_fr hW gdr f4935 rfl hdr))
  have h4983 : DE T H4954 cu  := (DE_fr w4934 gcu f4959 rfl (DE_fr hW gcu f4935 rfl hdec))
  have h4984 : DE T H4954 dr  := (DE_fr w4934 gdr f4959 rfl (DE_fr hW gdr f4935 rfl hded))
  have h4985 : SP T H4954 x C8 := (SP_fr w4934 gx f4959 rfl (SP_fr hW gx f4935 rfl hsp))
  have h4986 : CU T H4954 cu e8 d8 n8 := (CU_fr w4934 gcu f4959 rfl (CU_fr hW gcu f4935 rfl hcu8))
  have h4987 : CY T H4954 cu (d8 0 3) g8 (H cu 17) := (CY_fr w4934 gcu f4959 rfl (CY_fr hW gcu f4935 rfl h4923))
  have k4988 : H4954 x 3 = H x 3 := ((f4959 x 3 _ gx rfl).trans (f4935 x 3 _ gx rfl))
  have q4989 : H4954 x 3 = (ce8 : Int) := k4988.trans ece8
  have h4990 : CEN T H4954 ce8 e8 d8 := (CEN_fr w4934 gce8 f4959 rfl p4938)
  have h4991 : HDR T H4954 ce8  := (HDR_fr w4934 gce8 f4959 rfl (HDR_fr hW gce8 f4935 rfl hhdr8))
  have h4992 : RY T H4954 m (d8 0 3) g8 (H m 32) := (RY_fr w4934 gm f4959 rfl (RY_fr hW gm f4935 rfl h4924))
  have h4993 : RB T H4954 m e8 d8 := (RB_fr w4934 gm f4959 rfl h4950)
  exact WL.loc hX (by simp) (next T H4954 ⟨⟨w4958, g0, gx, gm, go, by omega, by omega⟩, ⟨_, tc, tm, cu, dr, _, _, _, _, _, ce8, q4972, gtc, h4979, q4974, gtm, h4980, q4976, gcu, q4978, gdr, h4981, h4982, h4983, h4984, h4985, hC1, hC2, h4986, h4993, (h4987).1, (h4992).1, hE, hZ, (by omega), (by assumption), (by omega), (by first | assumption | exact SG_0), q4989, gce8, h4990, h4991, a4964, gm⟩, by omega, by omega⟩ (by omega) (by omega))
set_option maxHeartbeats 4000000 in
theorem wl_c33 {kt : Nat → Option mc_E} {CB SB : Nat} {X : mc_S → Prop} {T : wq_T} {H : wq_H} {Len x m o : Nat} {i : Int} (hX : wlX kt CB SB X) (hb : T.2.1 ≤ CB ∧ T.2.2.1 ≤ SB) (hI : wlJ Len x m o T H) (hL : Len ≤ 3072) (hi : 0 ≤ i ∧ i + 6 ≤ Len) (hb2 : T.2.1 + 20 ≤ CB ∧ T.2.2.1 + 500 ≤ SB)  (next : ∀ T' H', wlJ Len x m o T' H' → T'.2.1 ≤ T.2.1 + 20 → T'.2.2.1 ≤ T.2.2.1 + 500 → WL kt CB SB X 1653 (wlL i x m o) [] T' H') : WL kt CB SB X 1225 (wlL i x m o) [] T H := by
  obtain ⟨⟨hW, g0, gx, gm, go, hK, hr⟩, hXI, hY1, hY2⟩ := hI
  refine wl_of hX hb cL_1225 (rw_aload_n (pc' := 1226) (v := .ref x) rfl rfl rfl ?_)
  refine wl_of hX hb cL_1226 (rw_aload_n (pc' := 1227) (v := .ref 0) rfl rfl rfl ?_)
  refine wl_of hX hb cL_1227 (rw_iload (pc' := 1229) (z := i) rfl rfl ?_)
  refine wl_of hX hb cL_1229 (rw_iconst (pc' := 1230) rfl ?_)
  refine wl_of hX hb cL_1230 (rw_iadd (pc' := 1231) rfl ?_)
  refine wl_of hX hb cL_1231 (xa_I (so := 0) (pc' := 1232) (a := 0) hW g0 (wsh_s _) (by omega) (wty_s _ _) (by omega) (by omega) rfl (fun b4994 b4995 => ?_))
  obtain ⟨B, tc, tm, cu, dr, C8, e8, d8, n8, g8, ce8, e0, gtc, htc, em, gtm, htm, ecu, gcu, edr, gdr, hcu, hdr, hdec, hded, hsp, hC1, hC2, hcu8, hrb8, hcg8, hmn8, hE, hZ, hn8, hXA, hV8, hSG, ece8, gce8, hcen8, hhdr8, hknn8, -⟩ := hXI
  have hN3 := RB_n3 hrb8
  have hE13 : ∀ h : Nat, h < 24 → 0 ≤ e8 13 h ∧ e8 13 h ≤ 100 := fun k hk => by
    obtain ⟨s, h1, h2, h3⟩ := hcu8.1.2.2.1
    exact ⟨(h3 k hk).1, (h3 k hk).2.1⟩
  have hXW := hXA.1
  have hXN := hXA.2
  have hE0 : e8 0 3 = d8 0 3 ∧ e8 0 0 = d8 0 0 := by
    have h := hE 0 (by decide)
    exact ⟨congrFun h 3, congrFun h 0⟩
  have u4996 := CU_k hcu8
  have h4997 : CY T H cu (d8 0 3) g8 (H cu 17) := ⟨hcg8, rfl⟩
  have h4998 : RY T H m (d8 0 3) g8 (H m 32) := ⟨hmn8, rfl⟩
  obtain ⟨t9, ht9⟩ : ∃ t : Int, t = H x 9 := ⟨_, rfl⟩
  obtain ⟨y9, hy9⟩ : ∃ y : Int, y = H 0 ((i + 1).toNat) := ⟨_, rfl⟩
  obtain ⟨r4999, q5000, g5001⟩ := hW.ref gx (t' := 6) (n := 13) (j := 2) (p := 0) (q := 0) rfl (by decide) rfl
  refine wl_of hX hb cL_1232 (xc_V (pc' := 1235) (r := x) (as := [vI (H 0 ((i + 1).toNat))]) (st := []) (lm_11_159) rfl rfl (Nat.le_of_ble_eq_true rfl) hW gx sh_1 (by decide) rfl (by decide) (u_135 (e := e8) (d := d8) (n := n8) hW gx ⟨by omega, by omega⟩ ecu gcu q5000 g5001 ece8 gce8 (by assumption) (by assumption) (by omega) (by omega) (by omega) (by omega) hcu8 hcen8 hhdr8) (fun R5002 T5003 H5004 p5005 => ?_))
  obtain ⟨e5006, w5008, f5009, z5010, e5007, b5011, p5012⟩ := p5005
  subst e5006
  subst e5007
  show WL _ _ _ _ 1235 [(4, vI i), (3, .ref o), (2, .ref m), (1, .ref x), (0, .ref 0)] [vI z5010] _ H5004
  refine wl_of hX hb cL_1235 (rw_pop (pc' := 1236) rfl rfl ?_)
  refine wl_of hX hb cL_1236 (rw_aload_n (pc' := 1237) (v := .ref m) rfl rfl rfl ?_)
  refine wl_of hX hb cL_1237 (rw_aload_n (pc' := 1238) (v := .ref 0) rfl rfl rfl ?_)
  refine wl_of hX hb cL_1238 (rw_iload (pc' := 1240) (z := i) rfl rfl ?_)
  refine wl_of hX hb cL_1240 (rw_iconst (pc' := 1241) rfl ?_)
  refine wl_of hX hb cL_1241 (rw_iadd (pc' := 1242) rfl ?_)
  have k5016 : H5004 0 ((i + 1).toNat) = H 0 ((i + 1).toNat) := (f5009 0 ((i + 1).toNat) _ g0 (wmem_s rfl))
  refine wl_of hX hb cL_1242 (xa_I (so := 0) (pc' := 1243) (a := 0) w5008 g0 (wsh_s _) (by omega) (wty_s _ _) (by omega) (by omega) rfl (fun b5014 b5015 => ?_))
  have k5017 : wKI H5004 m = wKI H m := (wKI_fr hW gm f5009 rfl)
  have k5018 : H5004 x 9 = H x 9 := (f5009 x 9 _ gx rfl)
  have k5019 : H5004 m 6 = H m 6 := (f5009 m 6 _ gm rfl)
  have k5020 : H5004 x 11 = H x 11 := (f5009 x 11 _ gx rfl)
  have k5021 : H5004 m 13 = H m 13 := (f5009 m 13 _ gm rfl)
  have k5022 : H5004 x 8 = H x 8 := (f5009 x 8 _ gx rfl)
  have k5023 : H5004 m 3 = H m 3 := (f5009 m 3 _ gm rfl)
  rw [show H5004 0 ((i + 1).toNat) = H 0 ((i + 1).toNat) by omega]
  have h5024 : RB T H5004 m e8 d8 := (RB_fr hW gm f5009 rfl hrb8)
  have h5025 : KNN T H5004 m e8 d8 := (KNN_fr hW gm f5009 rfl hknn8)
  refine wl_of hX hb cL_1243 (xc_V (pc' := 1246) (r := m) (as := [vI (H 0 ((i + 1).toNat))]) (st := []) (lm_11_162) rfl rfl (Nat.le_of_ble_eq_true rfl) w5008 gm sh_42 (by decide) rfl (by decide) (u_275 (e := e8) (d := d8) w5008 gm ⟨by omega, by omega⟩ (by omega) (by assumption) (by assumption) (by assumption) (by assumption) h5024 h5025) (fun R5026 T5027 H5028 p5029 => ?_))
  obtain ⟨e5030, w5032, f5033, z5034, e5031, b5035, p5036⟩ := p5029
  subst e5030
  subst e5031
  obtain ⟨a5037, a5038⟩ := p5036
  show WL _ _ _ _ 1246 [(4, vI i), (3, .ref o), (2, .ref m), (1, .ref x), (0, .ref 0)] [vI z5034] _ H5028
  refine wl_of hX hb cL_1246 (rw_pop (pc' := 1247) rfl rfl ?_)
  refine wl_of hX hb cL_1247 (rw_goto (p1 := 1653) (by decide) ?_)
  have k5039 : H5028 x 9 = H5004 x 9 := (f5033 x 9 _ gx rfl)
  have k5040 : H5028 m 6 = H5004 m 6 := (f5033 m 6 _ gm rfl)
  have k5041 : H5028 x 11 = H5004 x 11 := (f5033 x 11 _ gx rfl)
  have k5042 : H5028 m 13 = H5004 m 13 := (f5033 m 13 _ gm rfl)
  have k5043 : H5028 x 8 = H5004 x 8 := (f5033 x 8 _ gx rfl)
  have k5044 : H5028 m 3 = H5004 m 3 := (f5033 m 3 _ gm rfl)
  have k5045 : H5028 x 0 = H x 0 := ((f5033 x 0 _ gx rfl).trans (f5009 x 0 _ gx rfl))
  have q5046 : H5028 x 0 = (tc : Int) := k5045.trans e0
  have k5047 : H5028 m 5 = H m 5 := ((f5033 m 5 _ gm rfl).trans (f5009 m 5 _ gm rfl))
  have q5048 : H5028 m 5 = (tm : Int) := k5047.trans em
  have k5049 : H5028 x 6 = H x 6 := ((f5033 x 6 _ gx rfl).trans (f5009 x 6 _ gx rfl))
  have q5050 : H5028 x 6 = (cu : Int) := k5049.trans ecu
  have k5051 : H5028 x 7 = H x 7 := ((f5033 x 7 _ gx rfl).trans (f5009 x 7 _ gx rfl))
  have q5052 : H5028 x 7 = (dr : Int) := k5051.trans edr
  have h5053 : TP T H5028 tc B := (TP_fr w5008 gtc f5033 rfl (TP_fr hW gtc f5009 rfl htc))
  have h5054 : TM T H5028 tm B := (TM_fr w5008 gtm f5033 rfl (TM_fr hW gtm f5009 rfl htm))
  have h5055 : DD T H5028 cu  := (DD_fr w5008 gcu f5033 rfl (DD_fr hW gcu f5009 rfl hcu))
  have h5056 : DD T H5028 dr  := (DD_fr w5008 gdr f5033 rfl (DD_fr hW gdr f5009 rfl hdr))
  have h5057 : DE T H5028 cu  := (DE_fr w5008 gcu f5033 rfl (DE_fr hW gcu f5009 rfl hdec))
  have h5058 : DE T H5028 dr  := (DE_fr w5008 gdr f5033 rfl (DE_fr hW gdr f5009 rfl hded))
  have h5059 : SP T H5028 x C8 := (SP_fr w5008 gx f5033 rfl (SP_fr hW gx f5009 rfl hsp))
  have h5060 : CU T H5028 cu e8 d8 n8 := (CU_fr w5008 gcu f5033 rfl (CU_fr hW gcu f5009 rfl hcu8))
  have h5061 : CY T H5028 cu (d8 0 3) g8 (H cu 17) := (CY_fr w5008 gcu f5033 rfl (CY_fr hW gcu f5009 rfl h4997))
  have k5062 : H5028 x 3 = H x 3 := ((f5033 x 3 _ gx rfl).trans (f5009 x 3 _ gx rfl))
  have q5063 : H5028 x 3 = (ce8 : Int) := k5062.trans ece8
  have h5064 : CEN T H5028 ce8 e8 d8 := (CEN_fr w5008 gce8 f5033 rfl p5012)
  have h5065 : HDR T H5028 ce8  := (HDR_fr w5008 gce8 f5033 rfl (HDR_fr hW gce8 f5009 rfl hhdr8))
  have h5066 : RY T H5028 m (d8 0 3) g8 (H m 32) := (RY_fr w5008 gm f5033 rfl (RY_fr hW gm f5009 rfl h4998))
  have h5067 : RB T H5028 m e8 d8 := (RB_fr w5008 gm f5033 rfl h5024)
  exact WL.loc hX (by simp) (next T H5028 ⟨⟨w5032, g0, gx, gm, go, by omega, by omega⟩, ⟨_, tc, tm, cu, dr, _, _, _, _, _, ce8, q5046, gtc, h5053, q5048, gtm, h5054, q5050, gcu, q5052, gdr, h5055, h5056, h5057, h5058, h5059, hC1, hC2, h5060, h5067, (h5061).1, (h5066).1, hE, hZ, (by omega), (by assumption), (by omega), (by first | assumption | exact SG_0), q5063, gce8, h5064, h5065, a5038, gm⟩, by omega, by omega⟩ (by omega) (by omega))
set_option maxHeartbeats 4000000 in
theorem wl_c34 {kt : Nat → Option mc_E} {CB SB : Nat} {X : mc_S → Prop} {T : wq_T} {H : wq_H} {Len x m o : Nat} {i : Int} (hX : wlX kt CB SB X) (hb : T.2.1 ≤ CB ∧ T.2.2.1 ≤ SB) (hI : wlJ Len x m o T H) (hL : Len ≤ 3072) (hi : 0 ≤ i ∧ i + 6 ≤ Len) (hb2 : T.2.1 + 20 ≤ CB ∧ T.2.2.1 + 500 ≤ SB)  (next : ∀ T' H', wlJ Len x m o T' H' → T'.2.1 ≤ T.2.1 + 20 → T'.2.2.1 ≤ T.2.2.1 + 500 → WL kt CB SB X 1653 (wlL i x m o) [] T' H') : WL kt CB SB X 1250 (wlL i x m o) [] T H := by
  obtain ⟨⟨hW, g0, gx, gm, go, hK, hr⟩, hXI, hY1, hY2⟩ := hI
  refine wl_of hX hb cL_1250 (rw_aload_n (pc' := 1251) (v := .ref x) rfl rfl rfl ?_)
  obtain ⟨B, tc, tm, cu, dr, C8, e8, d8, n8, g8, ce8, e0, gtc, htc, em, gtm, htm, ecu, gcu, edr, gdr, hcu, hdr, hdec, hded, hsp, hC1, hC2, hcu8, hrb8, hcg8, hmn8, hE, hZ, hn8, hXA, hV8, hSG, ece8, gce8, hcen8, hhdr8, hknn8, -⟩ := hXI
  have hN3 := RB_n3 hrb8
  have hE13 : ∀ h : Nat, h < 24 → 0 ≤ e8 13 h ∧ e8 13 h ≤ 100 := fun k hk => by
    obtain ⟨s, h1, h2, h3⟩ := hcu8.1.2.2.1
    exact ⟨(h3 k hk).1, (h3 k hk).2.1⟩
  have hXW := hXA.1
  have hXN := hXA.2
  have hE0 : e8 0 3 = d8 0 3 ∧ e8 0 0 = d8 0 0 := by
    have h := hE 0 (by decide)
    exact ⟨congrFun h 3, congrFun h 0⟩
  have u5068 := CU_k hcu8
  have h5069 : CY T H cu (d8 0 3) g8 (H cu 17) := ⟨hcg8, rfl⟩
  have h5070 : RY T H m (d8 0 3) g8 (H m 32) := ⟨hmn8, rfl⟩
  obtain ⟨t9, ht9⟩ : ∃ t : Int, t = H x 9 := ⟨_, rfl⟩
  obtain ⟨r5071, q5072, g5073⟩ := hW.ref gx (t' := 6) (n := 13) (j := 2) (p := 0) (q := 0) rfl (by decide) rfl
  refine wl_of hX hb cL_1251 (xc_V (pc' := 1254) (r := x) (as := []) (st := []) (lm_11_163) rfl rfl (Nat.le_of_ble_eq_true rfl) hW gx sh_1 (by decide) rfl (by decide) (u_137 (e := e8) (d := d8) (n := n8) hW gx ecu gcu q5072 g5073 ece8 gce8 (by assumption) (by assumption) (by omega) (by omega) (by omega) (by omega) hcu8 hcen8 hhdr8) (fun R5074 T5075 H5076 p5077 => ?_))
  obtain ⟨e5078, w5080, f5081, z5082, e5079, b5083, p5084⟩ := p5077
  subst e5078
  subst e5079
  show WL _ _ _ _ 1254 [(4, vI i), (3, .ref o), (2, .ref m), (1, .ref x), (0, .ref 0)] [vI z5082] _ H5076
  refine wl_of hX hb cL_1254 (rw_pop (pc' := 1255) rfl rfl ?_)
  refine wl_of hX hb cL_1255 (rw_aload_n (pc' := 1256) (v := .ref m) rfl rfl rfl ?_)
  have k5086 : wKI H5076 m = wKI H m := (wKI_fr hW gm f5081 rfl)
  have k5087 : H5076 x 9 = H x 9 := (f5081 x 9 _ gx rfl)
  have k5088 : H5076 m 6 = H m 6 := (f5081 m 6 _ gm rfl)
  have k5089 : H5076 x 11 = H x 11 := (f5081 x 11 _ gx rfl)
  have k5090 : H5076 m 13 = H m 13 := (f5081 m 13 _ gm rfl)
  have k5091 : H5076 x 8 = H x 8 := (f5081 x 8 _ gx rfl)
  have k5092 : H5076 m 3 = H m 3 := (f5081 m 3 _ gm rfl)
  have h5093 : RB T H5076 m e8 d8 := (RB_fr hW gm f5081 rfl hrb8)
  have h5094 : KNN T H5076 m e8 d8 := (KNN_fr hW gm f5081 rfl hknn8)
  refine wl_of hX hb cL_1256 (xc_V (pc' := 1259) (r := m) (as := []) (st := []) (lm_11_166) rfl rfl (Nat.le_of_ble_eq_true rfl) w5080 gm sh_42 (by decide) rfl (by decide) (u_276 (e := e8) (d := d8) w5080 gm (by omega) (by assumption) (by assumption) (by assumption) (by assumption) h5093 h5094) (fun R5095 T5096 H5097 p5098 => ?_))
  obtain ⟨e5099, w5101, f5102, z5103, e5100, b5104, p5105⟩ := p5098
  subst e5099
  subst e5100
  obtain ⟨a5106, a5107⟩ := p5105
  show WL _ _ _ _ 1259 [(4, vI i), (3, .ref o), (2, .ref m), (1, .ref x), (0, .ref 0)] [vI z5103] _ H5097
  refine wl_of hX hb cL_1259 (rw_pop (pc' := 1260) rfl rfl ?_)
  refine wl_of hX hb cL_1260 (rw_goto (p1 := 1653) (by decide) ?_)
  have k5108 : H5097 x 9 = H5076 x 9 := (f5102 x 9 _ gx rfl)
  have k5109 : H5097 m 6 = H5076 m 6 := (f5102 m 6 _ gm rfl)
  have k5110 : H5097 x 11 = H5076 x 11 := (f5102 x 11 _ gx rfl)
  have k5111 : H5097 m 13 = H5076 m 13 := (f5102 m 13 _ gm rfl)
  have k5112 : H5097 x 8 = H5076 x 8 := (f5102 x 8 _ gx rfl)
  have k5113 : H5097 m 3 = H5076 m 3 := (f5102 m 3 _ gm rfl)
  have k5114 : H5097 x 0 = H x 0 := ((f5102 x 0 _ gx rfl).trans (f5081 x 0 _ gx rfl))
  have q5115 : H5097 x 0 = (tc : Int) := k5114.trans e0
  have k5116 : H5097 m 5 = H m 5 := ((f5102 m 5 _ gm rfl).trans (f5081 m 5 _ gm rfl))
  have q5117 : H5097 m 5 = (tm : Int) := k5116.trans em
  have k5118 : H5097 x 6 = H x 6 := ((f5102 x 6 _ gx rfl).trans (f5081 x 6 _ gx rfl))
  have q5119 : H5097 x 6 = (cu : Int) := k5118.trans ecu
  have k5120 : H5097 x 7 = H x 7 := ((f5102 x 7 _ gx rfl).trans (f5081 x 7 _ gx rfl))
  have q5121 : H5097 x 7 = (dr : Int) := k5120.trans edr
  have h5122 : TP T H5097 tc B := (TP_fr w5080 gtc f5102 rfl (TP_fr hW gtc f5081 rfl htc))
  have h5123 : TM T H5097 tm B := (TM_fr w5080 gtm f5102 rfl (TM_fr hW gtm f5081 rfl htm))
  have h5124 : DD T H5097 cu  := (DD_fr w5080 gcu f5102 rfl (DD_fr hW gcu f5081 rfl hcu))
  have h5125 : DD T H5097 dr  := (DD_fr w5080 gdr f5102 rfl (DD_fr hW gdr f5081 rfl hdr))
  have h5126 : DE T H5097 cu  := (DE_fr w5080 gcu f5102 rfl (DE_fr hW gcu f5081 rfl hdec))
  have h5127 : DE T H5097 dr  := (DE_fr w5080 gdr f5102 rfl (DE_fr hW gdr f5081 rfl hded))
  have h5128 : SP T H5097 x C8 := (SP_fr w5080 gx f5102 rfl (SP_fr hW gx f5081 rfl hsp))
  have h5129 : CU T H5097 cu e8 d8 n8 := (CU_fr w5080 gcu f5102 rfl (CU_fr hW gcu f5081 rfl hcu8))
  have h5130 : CY T H5097 cu (d8 0 3) g8 (H cu 17) := (CY_fr w5080 gcu f5102 rfl (CY_fr hW gcu f5081 rfl h5069))
  have k5131 : H5097 x 3 = H x 3 := ((f5102 x 3 _ gx rfl).trans (f5081 x 3 _ gx rfl))
  have q5132 : H5097 x 3 = (ce8 : Int) := k5131.trans ece8
  have h5133 : CEN T H5097 ce8 e8 d8 := (CEN_fr w5080 gce8 f5102 rfl p5084)
  have h5134 : HDR T H5097 ce8  := (HDR_fr w5080 gce8 f5102 rfl (HDR_fr hW gce8 f5081 rfl hhdr8))
  have h5135 : RY T H5097 m (d8 0 3) g8 (H m 32) := (RY_fr w5080 gm f5102 rfl (RY_fr hW gm f5081 rfl h5070))
  have h5136 : RB T H5097 m e8 d8 := (RB_fr w5080 gm f5102 rfl h5093)
  exact WL.loc hX (by simp) (next T H5097 ⟨⟨w5101, g0, gx, gm, go, by omega, by omega⟩, ⟨_, tc, tm, cu, dr, _, _, _, _, _, ce8, q5115, gtc, h5122, q5117, gtm, h5123, q5119, gcu, q5121, gdr, h5124, h5125, h5126, h5127, h5128, hC1, hC2, h5129, h5136, (h5130).1, (h5135).1, hE, hZ, (by omega), (by assumption), (by omega), (by first | assumption | exact SG_0), q5132, gce8, h5133, h5134, a5107, gm⟩, by omega, by omega⟩ (by omega) (by omega))
set_option maxHeartbeats 4000000 in
theorem wl_c35 {kt : Nat → Option mc_E} {CB SB : Nat} {X : mc_S → Prop} {T : wq_T} {H : wq_H} {Len x m o : Nat} {i : Int} (hX : wlX kt CB SB X) (hb : T.2.1 ≤ CB ∧ T.2.2.1 ≤ SB) (hI : wlJ Len x m o T H) (hL : Len ≤ 3072) (hi : 0 ≤ i ∧ i + 6 ≤ Len) (hb2 : T.2.1 + 20 ≤ CB ∧ T.2.2.1 + 500 ≤ SB)  (next : ∀ T' H', wlJ Len x m o T' H' → T'.2.1 ≤ T.2.1 + 20 → T'.2.2.1 ≤ T.2.2.1 + 500 → WL kt CB SB X 1653 (wlL i x m o) [] T' H') : WL kt CB SB X 1263 (wlL i x m o) [] T H := by
  obtain ⟨⟨hW, g0, gx, gm, go, hK, hr⟩, hXI, hY1, hY2⟩ := hI
  refine wl_of hX hb cL_1263 (rw_aload_n (pc' := 1264) (v := .ref x) rfl rfl rfl ?_)
  refine wl_of hX hb cL_1264 (rw_aload_n (pc' := 1265) (v := .ref 0) rfl rfl rfl ?_)
  refine wl_of hX hb cL_1265 (rw_iload (pc' := 1267) (z := i) rfl rfl ?_)
  refine wl_of hX hb cL_1267 (rw_iconst (pc' := 1268) rfl ?_)
  refine wl_of hX hb cL_1268 (rw_iadd (pc' := 1269) rfl ?_)
  refine wl_of hX hb cL_1269 (xa_I (so := 0) (pc' := 1270) (a := 0) hW g0 (wsh_s _) (by omega) (wty_s _ _) (by omega) (by omega) rfl (fun b5137 b5138 => ?_))
  refine wl_of hX hb cL_1270 (rw_aload_n (pc' := 1271) (v := .ref 0) rfl rfl rfl ?_)
  refine wl_of hX hb cL_1271 (rw_iload (pc' := 1273) (z := i) rfl rfl ?_)
  refine wl_of hX hb cL_1273 (rw_iconst (pc' := 1274) rfl ?_)
  refine wl_of hX hb cL_1274 (rw_iadd (pc' := 1275) rfl ?_)
  refine wl_of hX hb cL_1275 (xa_I (so := 0) (pc' := 1276) (a := 0) hW g0 (wsh_s _) (by omega) (wty_s _ _) (by omega) (by omega) rfl (fun b5139 b5140 => ?_))
  refine wl_of hX hb cL_1276 (rw_if_eq (p1 := 1283) (p2 := 1279) (by decide) rfl ⟨by omega, by omega⟩ (fun c5141 => ?_) (fun c5141 => ?_))
  · refine wl_of hX hb cL_1283 (rw_iconst (pc' := 1284) rfl ?_)
    obtain ⟨B, tc, tm, cu, dr, C8, e8, d8, n8, g8, ce8, e0, gtc, htc, em, gtm, htm, ecu, gcu, edr, gdr, hcu, hdr, hdec, hded, hsp, hC1, hC2, hcu8, hrb8, hcg8, hmn8, hE, hZ, hn8, hXA, hV8, hSG, ece8, gce8, hcen8, hhdr8, hknn8, -⟩ := hXI
    have hN3 := RB_n3 hrb8
    have hE13 : ∀ h : Nat, h < 24 → 0 ≤ e8 13 h ∧ e8 13 h ≤ 100 := fun k hk => by
      obtain ⟨s, h1, h2, h3⟩ := hcu8.1.2.2.1
      exact ⟨(h3 k hk).1, (h3 k hk).2.1⟩
    have hXW := hXA.1
    have hXN := hXA.2
    have hE0 : e8 0 3 = d8 0 3 ∧ e8 0 0 = d8 0 0 := by
      have h := hE 0 (by decide)
      exact ⟨congrFun h 3, congrFun h 0⟩
    have u5142 := CU_k hcu8
    have h5143 : CY T H cu (d8 0 3) g8 (H cu 17) := ⟨hcg8, rfl⟩
    have h5144 : RY T H m (d8 0 3) g8 (H m 32) := ⟨hmn8, rfl⟩
    obtain ⟨t9, ht9⟩ : ∃ t : Int, t = H x 9 := ⟨_, rfl⟩
    obtain ⟨y9, hy9⟩ : ∃ y : Int, y = 0 := ⟨_, rfl⟩
    obtain ⟨r5145, q5146, g5147⟩ := hW.ref gx (t' := 6) (n := 13) (j := 2) (p := 0) (q := 0) rfl (by decide) rfl
    refine wl_of hX hb cL_1284 (xc_V (pc' := 1287) (r := x) (as := [vI (H 0 ((i + 1).toNat)), vI 0]) (st := []) (lm_11_167) rfl rfl (Nat.le_of_ble_eq_true rfl) hW gx sh_1 (by decide) rfl (by decide) (u_146 (e := e8) (d := d8) (n := n8) hW gx ⟨by omega, by omega⟩ ⟨by decide, by decide⟩ ecu gcu q5146 g5147 ece8 gce8 (by assumption) (by assumption) (by omega) (by omega) (by omega) (by omega) hcu8 hcen8 hhdr8) (fun R5148 T5149 H5150 p5151 => ?_))
    obtain ⟨e5152, w5154, f5155, z5156, e5153, b5157, p5158⟩ := p5151
    subst e5152
    subst e5153
    show WL _ _ _ _ 1287 [(4, vI i), (3, .ref o), (2, .ref m), (1, .ref x), (0, .ref 0)] [vI z5156] _ H5150
    refine wl_of hX hb cL_1287 (rw_pop (pc' := 1288) rfl rfl ?_)
    refine wl_of hX hb cL_1288 (rw_aload_n (pc' := 1289) (v := .ref m) rfl rfl rfl ?_)
    refine wl_of hX hb cL_1289 (rw_aload_n (pc' := 1290) (v := .ref 0) rfl rfl rfl ?_)
    refine wl_of hX hb cL_1290 (rw_iload (pc' := 1292) (z := i) rfl rfl ?_)
    refine wl_of hX hb cL_1292 (rw_iconst (pc' := 1293) rfl ?_)
    refine wl_of hX hb cL_1293 (rw_iadd (pc' := 1294) rfl ?_)
    have k5162 : H5150 0 ((i + 1).toNat) = H 0 ((i + 1).toNat) := (f5155 0 ((i + 1).toNat) _ g0 (wmem_s rfl))
    refine wl_of hX hb cL_1294 (xa_I (so := 0) (pc' := 1295) (a := 0) w5154 g0 (wsh_s _) (by omega) (wty_s _ _) (by omega) (by omega) rfl (fun b5160 b5161 => ?_))
    refine wl_of hX hb cL_1295 (rw_aload_n (pc' := 1296) (v := .ref 0) rfl rfl rfl ?_)
    refine wl_of hX hb cL_1296 (rw_iload (pc' := 1298) (z := i) rfl rfl ?_)
    refine wl_of hX hb cL_1298 (rw_iconst (pc' := 1299) rfl ?_)
    refine wl_of hX hb cL_1299 (rw_iadd (pc' := 1300) rfl ?_)
    have k5165 : H5150 0 ((i + 2).toNat) = H 0 ((i + 2).toNat) := (f5155 0 ((i + 2).toNat) _ g0 (wmem_s rfl))
    refine wl_of hX hb cL_1300 (xa_I (so := 0) (pc' := 1301) (a := 0) w5154 g0 (wsh_s _) (by omega) (wty_s _ _) (by omega) (by omega) rfl (fun b5163 b5164 => ?_))
    refine wl_of hX hb cL_1301 (rw_if_eq (p1 := 1308) (p2 := 1304) (by decide) rfl ⟨by omega, by omega⟩ (fun c5166 => ?_) (fun c5166 => ?_))
    · refine wl_of hX hb cL_1308 (rw_iconst (pc' := 1309) rfl ?_)
      have k5167 : wKI H5150 m = wKI H m := (wKI_fr hW gm f5155 rfl)
      have k5168 : H5150 x 9 = H x 9 := (f5155 x 9 _ gx rfl)
      have k5169 : H5150 m 6 = H m 6 := (f5155 m 6 _ gm rfl)
      have k5170 : H5150 x 11 = H x 11 := (f5155 x 11 _ gx rfl)
      have k5171 : H5150 m 13 = H m 13 := (f5155 m 13 _ gm rfl)
      have k5172 : H5150 x 8 = H x 8 := (f5155 x 8 _ gx rfl)
      have k5173 : H5150 m 3 = H m 3 := (f5155 m 3 _ gm rfl)
      rw [show H5150 0 ((i + 1).toNat) = H 0 ((i + 1).toNat) by omega]
      have h5174 : RB T H5150 m e8 d8 := (RB_fr hW gm f5155 rfl hrb8)
      have h5175 : KNN T H5150 m e8 d8 := (KNN_fr hW gm f5155 rfl hknn8)
      refine wl_of hX hb cL_1309 (xc_V (pc' := 1312) (r := m) (as := [vI (H 0 ((i + 1).toNat)), vI 0]) (st := []) (lm_11_170) rfl rfl (Nat.le_of_ble_eq_true rfl) w5154 gm sh_42 (by decide) rfl (by decide) (u_279 (e := e8) (d := d8) w5154 gm ⟨by omega, by omega⟩ ⟨by decide, by decide⟩ (by omega) (by assumption) (by assumption) (by assumption) (by assumption) h5174 h5175) (fun R5176 T5177 H5178 p5179 => ?_))
      obtain ⟨e5180, w5182, f5183, z5184, e5181, b5185, p5186⟩ := p5179
      subst e5180
      subst e5181
      obtain ⟨a5187, a5188⟩ := p5186
      show WL _ _ _ _ 1312 [(4, vI i), (3, .ref o), (2, .ref m), (1, .ref x), (0, .ref 0)] [vI z5184] _ H5178
      refine wl_of hX hb cL_1312 (rw_pop (pc' := 1313) rfl rfl ?_)
      refine wl_of hX hb cL_1313 (rw_goto (p1 := 1653) (by decide) ?_)
      have k5189 : H5178 x 9 = H5150 x 9 := (f5183 x 9 _ gx rfl)
      have k5190 : H5178 m 6 = H5150 m 6 := (f5183 m 6 _ gm rfl)
      have k5191 : H5178 x 11 = H5150 x 11 := (f5183 x 11 _ gx rfl)
      have k5192 : H5178 m 13 = H5150 m 13 := (f5183 m 13 _ gm rfl)
      have k5193 : H5178 x 8 = H5150 x 8 := (f5183 x 8 _ gx rfl)
      have k5194 : H5178 m 3 = H5150 m 3 := (f5183 m 3 _ gm rfl)
      have k5195 : H5178 x 0 = H x 0 := ((f5183 x 0 _ gx rfl).trans (f5155 x 0 _ gx rfl))
      have q5196 : H5178 x 0 = (tc : Int) := k5195.trans e0
      have k5197 : H5178 m 5 = H m 5 := ((f5183 m 5 _ gm rfl).trans (f5155 m 5 _ gm rfl))
      have q5198 : H5178 m 5 = (tm : Int) := k5197.trans em
      have k5199 : H5178 x 6 = H x 6 := ((f5183 x 6 _ gx rfl).trans (f5155 x 6 _ gx rfl))
      have q5200 : H5178 x 6 = (cu : Int) := k5199.trans ecu
      have k5201 : H5178 x 7 = H x 7 := ((f5183 x 7 _ gx rfl).trans (f5155 x 7 _ gx rfl))
      have q5202 : H5178 x 7 = (dr : Int) := k5201.trans edr
      have h5203 : TP T H5178 tc B := (TP_fr w5154 gtc f5183 rfl (TP_fr hW gtc f5155 rfl htc))
      have h5204 : TM T H5178 tm B := (TM_fr w5154 gtm f5183 rfl (TM_fr hW gtm f5155 rfl htm))
      have h5205 : DD T H5178 cu  := (DD_fr w5154 gcu f5183 rfl (DD_fr hW gcu f5155 rfl hcu))
      have h5206 : DD T H5178 dr  := (DD_fr w5154 gdr f5183 rfl (DD_fr hW gdr f5155 rfl hdr))
      have h5207 : DE T H5178 cu  := (DE_fr w5154 gcu f5183 rfl (DE_fr hW gcu f5155 rfl hdec))
      have h5208 : DE T H5178 dr  := (DE_fr w5154 gdr f5183 rfl (DE_fr hW gdr f5155 rfl hded))
      have h5209 : SP T H5178 x C8 := (SP_fr w5154 gx f5183 rfl (SP_fr hW gx f5155 rfl hsp))
      have h5210 : CU T H5178 cu e8 d8 n8 := (CU_fr w5154 gcu f5183 rfl (CU_fr hW gcu f5155 rfl hcu8))
      have h5211 : CY T H5178 cu (d8 0 3) g8 (H cu 17) := (CY_fr w5154 gcu f5183 rfl (CY_fr hW gcu f5155 rfl h5143))
      have k5212 : H5178 x 3 = H x 3 := ((f5183 x 3 _ gx rfl).trans (f5155 x 3 _ gx rfl))
      have q5213 : H5178 x 3 = (ce8 : Int) := k5212.trans ece8
      have h5214 : CEN T H5178 ce8 e8 d8 := (CEN_fr w5154 gce8 f5183 rfl p5158)
      have h5215 : HDR T H5178 ce8  := (HDR_fr w5154 gce8 f5183 rfl (HDR_fr hW gce8 f5155 rfl hhdr8))
      have h5216 : RY T H5178 m (d8 0 3) g8 (H m 32) := (RY_fr w5154 gm f5183 rfl (RY_fr hW gm f5155 rfl h5144))
      have h5217 : RB T H5178 m e8 d8 := (RB_fr w5154 gm f5183 rfl h5174)
      exact WL.loc hX (by simp) (next T H5178 ⟨⟨w5182, g0, gx, gm, go, by omega, by omega⟩, ⟨_, tc, tm, cu, dr, _, _, _, _, _, ce8, q5196, gtc, h5203, q5198, gtm, h5204, q5200, gcu, q5202, gdr, h5205, h5206, h5207, h5208, h5209, hC1, hC2, h5210, h5217, (h5211).1, (h5216).1, hE, hZ, (by omega), (by assumption), (by omega), (by first | assumption | exact SG_0), q5213, gce8, h5214, h5215, a5188, gm⟩, by omega, by omega⟩ (by omega) (by omega))
    · exfalso
      omega
  · refine wl_of hX hb cL_1279 (rw_iconst (pc' := 1280) rfl ?_)
    refine wl_of hX hb cL_1280 (rw_goto (p1 := 1284) (by decide) ?_)
    obtain ⟨B, tc, tm, cu, dr, C8, e8, d8, n8, g8, ce8, e0, gtc, htc, em, gtm, htm, ecu, gcu, edr, gdr, hcu, hdr, hdec, hded, hsp, hC1, hC2, hcu8, hrb8, hcg8, hmn8, hE, hZ, hn8, hXA, hV8, hSG, ece8, gce8, hcen8, hhdr8, hknn8, -⟩ := hXI
    have hN3 := RB_n3 hrb8
    have hE13 : ∀ h : Nat, h < 24 → 0 ≤ e8 13 h ∧ e8 13 h ≤ 100 := fun k hk => by
      obtain ⟨s, h1, h2, h3⟩ := hcu8.1.2.2.1
      exact ⟨(h3 k hk).1, (h3 k hk).2.1⟩
    have hXW := hXA.1
    have hXN := hXA.2
    have hE0 : e8 0 3 = d8 0 3 ∧ e8 0 0 = d8 0 0 := by
      have h := hE 0 (by decide)
      exact ⟨congrFun h 3, congrFun h 0⟩
    have u5218 := CU_k hcu8
    have h5219 : CY T H cu (d8 0 3) g8 (H cu 17) := ⟨hcg8, rfl⟩
    have h5220 : RY T H m (d8 0 3) g8 (H m 32) := ⟨hmn8, rfl⟩
    obtain ⟨t9, ht9⟩ : ∃ t : Int, t = H x 9 := ⟨_, rfl⟩
    obtain ⟨y9, hy9⟩ : ∃ y : Int, y = 1 := ⟨_, rfl⟩
    obtain ⟨r5221, q5222, g5223⟩ := hW.ref gx (t' := 6) (n := 13) (j := 2) (p := 0) (q := 0) rfl (by decide) rfl
    refine wl_of hX hb cL_1284 (xc_V (pc' := 1287) (r := x) (as := [vI (H 0 ((i + 1).toNat)), vI 1]) (st := []) (lm_11_167) rfl rfl (Nat.le_of_ble_eq_true rfl) hW gx sh_1 (by decide) rfl (by decide) (u_146 (e := e8) (d := d8) (n := n8) hW gx ⟨by omega, by omega⟩ ⟨by decide, by decide⟩ ecu gcu q5222 g5223 ece8 gce8 (by assumption) (by assumption) (by omega) (by omega) (by omega) (by omega) hcu8 hcen8 hhdr8) (fun R5224 T5225 H5226 p5227 => ?_))
    obtain ⟨e5228, w5230, f5231, z5232, e5229, b5233, p5234⟩ := p5227
    subst e5228
    subst e5229
    show WL _ _ _ _ 1287 [(4, vI i), (3, .ref o), (2, .ref m), (1, .ref x), (0, .ref 0)] [vI z5232] _ H5226
    refine wl_of hX hb cL_1287 (rw_pop (pc' := 1288) rfl rfl ?_)
    refine wl_of hX hb cL_1288 (rw_aload_n (pc' := 1289) (v := .ref m) rfl rfl rfl ?_)
    refine wl_of hX hb cL_1289 (rw_aload_n (pc' := 1290) (v := .ref 0) rfl rfl rfl ?_)
    refine wl_of hX hb cL_1290 (rw_iload (pc' := 1292) (z := i) rfl rfl ?_)
    refine wl_of hX hb cL_1292 (rw_iconst (pc' := 1293) rfl ?_)
    refine wl_of hX hb cL_1293 (rw_iadd (pc' := 1294) rfl ?_)
    have k5238 : H5226 0 ((i + 1).toNat) = H 0 ((i + 1).toNat) := (f5231 0 ((i + 1).toNat) _ g0 (wmem_s rfl))
    refine wl_of hX hb cL_1294 (xa_I (so := 0) (pc' := 1295) (a := 0) w5230 g0 (wsh_s _) (by omega) (wty_s _ _) (by omega) (by omega) rfl (fun b5236 b5237 => ?_))
    refine wl_of hX hb cL_1295 (rw_aload_n (pc' := 1296) (v := .ref 0) rfl rfl rfl ?_)
    refine wl_of hX hb cL_1296 (rw_iload (pc' := 1298) (z := i) rfl rfl ?_)
    refine wl_of hX hb cL_1298 (rw_iconst (pc' := 1299) rfl ?_)
    refine wl_of hX hb cL_1299 (rw_iadd (pc' := 1300) rfl ?_)
    have k5241 : H5226 0 ((i + 2).toNat) = H 0 ((i + 2).toNat) := (f5231 0 ((i + 2).toNat) _ g0 (wmem_s rfl))
    refine wl_of hX hb cL_1300 (xa_I (so := 0) (pc' := 1301) (a := 0) w5230 g0 (wsh_s _) (by omega) (wty_s _ _) (by omega) (by omega) rfl (fun b5239 b5240 => ?_))
    refine wl_of hX hb cL_1301 (rw_if_eq (p1 := 1308) (p2 := 1304) (by decide) rfl ⟨by omega, by omega⟩ (fun c5242 => ?_) (fun c5242 => ?_))
    · refine wl_of hX hb cL_1308 (rw_iconst (pc' := 1309) rfl ?_)
      have k5243 : wKI H5226 m = wKI H m := (wKI_fr hW gm f5231 rfl)
      have k5244 : H5226 x 9 = H x 9 := (f5231 x 9 _ gx rfl)
      have k5245 : H5226 m 6 = H m 6 := (f5231 m 6 _ gm rfl)
      have k5246 : H5226 x 11 = H x 11 := (f5231 x 11 _ gx rfl)
      have k5247 : H5226 m 13 = H m 13 := (f5231 m 13 _ gm rfl)
      have k5248 : H5226 x 8 = H x 8 := (f5231 x 8 _ gx rfl)
      have k5249 : H5226 m 3 = H m 3 := (f5231 m 3 _ gm rfl)
      rw [show H5226 0 ((i + 1).toNat) = H 0 ((i + 1).toNat) by omega]
      have h5250 : RB T H5226 m e8 d8 := (RB_fr hW gm f5231 rfl hrb8)
      have h5251 : KNN T H5226 m e8 d8 := (KNN_fr hW gm f5231 rfl hknn8)
      refine wl_of hX hb cL_1309 (xc_V (pc' := 1312) (r := m) (as := [vI (H 0 ((i + 1).toNat)), vI 0]) (st := []) (lm_11_170) rfl rfl (Nat.le_of_ble_eq_true rfl) w5230 gm sh_42 (by decide) rfl (by decide) (u_279 (e := e8) (d := d8) w5230 gm ⟨by omega, by omega⟩ ⟨by decide, by decide⟩ (by omega) (by assumption) (by assumption) (by assumption) (by assumption) h5250 h5251) (fun R5252 T5253 H5254 p5255 => ?_))
      obtain ⟨e5256, w5258, f5259, z5260, e5257, b5261, p5262⟩ := p5255
      subst e5256
      subst e5257
      obtain ⟨a5263, a5264⟩ := p5262
      show WL _ _ _ _ 1312 [(4, vI i), (3, .ref o), (2, .ref m), (1, .ref x), (0, .ref 0)] [vI z5260] _ H5254
      refine wl_of hX hb cL_1312 (rw_pop (pc' := 1313) rfl rfl ?_)
      refine wl_of hX hb cL_1313 (rw_goto (p1 := 1653) (by decide) ?_)
      have k5265 : H5254 x 9 = H5226 x 9 := (f5259 x 9 _ gx rfl)
      have k5266 : H5254 m 6 = H5226 m 6 := (f5259 m 6 _ gm rfl)
      have k5267 : H5254 x 11 = H5226 x 11 := (f5259 x 11 _ gx rfl)
      have k5268 : H5254 m 13 = H5226 m 13 := (f5259 m 13 _ gm rfl)
      have k5269 : H5254 x 8 = H5226 x 8 := (f5259 x 8 _ gx rfl)
      have k5270 : H5254 m 3 = H5226 m 3 := (f5259 m 3 _ gm rfl)
      have k5271 : H5254 x 0 = H x 0 := ((f5259 x 0 _ gx rfl).trans (f5231 x 0 _ gx rfl))
      have q5272 : H5254 x 0 = (tc : Int) := k5271.trans e0
      have k5273 : H5254 m 5 = H m 5 := ((f5259 m 5 _ gm rfl).trans (f5231 m 5 _ gm rfl))
      have q5274 : H5254 m 5 = (tm : Int) := k5273.trans em
      have k5275 : H5254 x 6 = H x 6 := ((f5259 x 6 _ gx rfl).trans (f5231 x 6 _ gx rfl))
      have q5276 : H5254 x 6 = (cu : Int) := k5275.trans ecu
      have k5277 : H5254 x 7 = H x 7 := ((f5259 x 7 _ gx rfl).trans (f5231 x 7 _ gx rfl))
      have q5278 : H5254 x 7 = (dr : Int) := k5277.trans edr
      have h5279 : TP T H5254 tc B := (TP_fr w5230 gtc f5259 rfl (TP_fr hW gtc f5231 rfl htc))
      have h5280 : TM T H5254 tm B := (TM_fr w5230 gtm f5259 rfl (TM_fr hW gtm f5231 rfl htm))
      have h5281 : DD T H5254 cu  := (DD_fr w5230 gcu f5259 rfl (DD_fr hW gcu f5231 rfl hcu))
      have h5282 : DD T H5254 dr  := (DD_fr w5230 gdr f5259 rfl (DD_fr hW gdr f5231 rfl hdr))
      have h5283 : DE T H5254 cu  := (DE_fr w5230 gcu f5259 rfl (DE_fr hW gcu f5231 rfl hdec))
      have h5284 : DE T H5254 dr  := (DE_fr w5230 gdr f5259 rfl (DE_fr hW gdr f5231 rfl hded))
      have h5285 : SP T H5254 x C8 := (SP_fr w5230 gx f5259 rfl (SP_fr hW gx f5231 rfl hsp))
      have h5286 : CU T H5254 cu e8 d8 n8 := (CU_fr w5230 gcu f5259 rfl (CU_fr hW gcu f5231 rfl hcu8))
      have h5287 : CY T H5254 cu (d8 0 3) g8 (H cu 17) := (CY_fr w5230 gcu f5259 rfl (CY_fr hW gcu f5231 rfl h5219))
      have k5288 : H5254 x 3 = H x 3 := ((f5259 x 3 _ gx rfl).trans (f5231 x 3 _ gx rfl))
      have q5289 : H5254 x 3 = (ce8 : Int) := k5288.trans ece8
      have h5290 : CEN T H5254 ce8 e8 d8 := (CEN_fr w5230 gce8 f5259 rfl p5234)
      have h5291 : HDR T H5254 ce8  := (HDR_fr w5230 gce8 f5259 rfl (HDR_fr hW gce8 f5231 rfl hhdr8))
      have h5292 : RY T H5254 m (d8 0 3) g8 (H m 32) := (RY_fr w5230 gm f5259 rfl (RY_fr hW gm f5231 rfl h5220))
      have h5293 : RB T H5254 m e8 d8 := (RB_fr w5230 gm f5259 rfl h5250)
      exact WL.loc hX (by simp) (next T H5254 ⟨⟨w5258, g0, gx, gm, go, by omega, by omega⟩, ⟨_, tc, tm, cu, dr, _, _, _, _, _, ce8, q5272, gtc, h5279, q5274, gtm, h5280, q5276, gcu, q5278, gdr, h5281, h5282, h5283, h5284, h5285, hC1, hC2, h5286, h5293, (h5287).1, (h5292).1, hE, hZ, (by omega), (by assumption), (by omega), (by first | assumption | exact SG_0), q5289, gce8, h5290, h5291, a5264, gm⟩, by omega, by omega⟩ (by omega) (by omega))
    · refine wl_of hX hb cL_1304 (rw_iconst (pc' := 1305) rfl ?_)
      refine wl_of hX hb cL_1305 (rw_goto (p1 := 1309) (by decide) ?_)
      have k5294 : wKI H5226 m = wKI H m := (wKI_fr hW gm f5231 rfl)
      have k5295 : H5226 x 9 = H x 9 := (f5231 x 9 _ gx rfl)
      have k5296 : H5226 m 6 = H m 6 := (f5231 m 6 _ gm rfl)
      have k5297 : H5226 x 11 = H x 11 := (f5231 x 11 _ gx rfl)
      have k5298 : H5226 m 13 = H m 13 := (f5231 m 13 _ gm rfl)
      have k5299 : H5226 x 8 = H x 8 := (f5231 x 8 _ gx rfl)
      have k5300 : H5226 m 3 = H m 3 := (f5231 m 3 _ gm rfl)
      rw [show H5226 0 ((i + 1).toNat) = H 0 ((i + 1).toNat) by omega]
      have h5301 : RB T H5226 m e8 d8 := (RB_fr hW gm f5231 rfl hrb8)
      have h5302 : KNN T H5226 m e8 d8 := (KNN_fr hW gm f5231 rfl hknn8)
      refine wl_of hX hb cL_1309 (xc_V (pc' := 1312) (r := m) (as := [vI (H 0 ((i + 1).toNat)), vI 1]) (st := []) (lm_11_170) rfl rfl (Nat.le_of_ble_eq_true rfl) w5230 gm sh_42 (by decide) rfl (by decide) (u_279 (e := e8) (d := d8) w5230 gm ⟨by omega, by omega⟩ ⟨by decide, by decide⟩ (by omega) (by assumption) (by assumption) (by assumption) (by assumption) h5301 h5302) (fun R5303 T5304 H5305 p5306 => ?_))
      obtain ⟨e5307, w5309, f5310, z5311, e5308, b5312, p5313⟩ := p5306
      subst e5307
      subst e5308
      obtain ⟨a5314, a5315⟩ := p5313
      show WL _ _ _ _ 1312 [(4, vI i), (3, .ref o), (2, .ref m), (1, .ref x), (0, .ref 0)] [vI z5311] _ H5305
      refine wl_of hX hb cL_1312 (rw_pop (pc' := 1313) rfl rfl ?_)
      refine wl_of hX hb cL_1313 (rw_goto (p1 := 1653) (by decide) ?_)
      have k5316 : H5305 x 9 = H5226 x 9 := (f5310 x 9 _ gx rfl)
      have k5317 : H5305 m 6 = H5226 m 6 := (f5310 m 6 _ gm rfl)
      have k5318 : H5305 x 11 = H5226 x 11 := (f5310 x 11 _ gx rfl)
      have k5319 : H5305 m 13 = H5226 m 13 := (f5310 m 13 _ gm rfl)
      have k5320 : H5305 x 8 = H5226 x 8 := (f5310 x 8 _ gx rfl)
      have k5321 : H5305 m 3 = H5226 m 3 := (f5310 m 3 _ gm rfl)
      have k5322 : H5305 x 0 = H x 0 := ((f5310 x 0 _ gx rfl).trans (f5231 x 0 _ gx rfl))
      have q5323 : H5305 x 0 = (tc : Int) := k5322.trans e0
      have k5324 : H5305 m 5 = H m 5 := ((f5310 m 5 _ gm rfl).trans (f5231 m 5 _ gm rfl))
      have q5325 : H5305 m 5 = (tm : Int) := k5324.trans em
      have k5326 : H5305 x 6 = H x 6 := ((f5310 x 6 _ gx rfl).trans (f5231 x 6 _ gx rfl))
      have q5327 : H5305 x 6 = (cu : Int) := k5326.trans ecu
      have k5328 : H5305 x 7 = H x 7 := ((f5310 x 7 _ gx rfl).trans (f5231 x 7 _ gx rfl))
      have q5329 : H5305 x 7 = (dr : Int) := k5328.trans edr
      have h5330 : TP T H5305 tc B := (TP_fr w5230 gtc f5310 rfl (TP_fr hW gtc f5231 rfl htc))
      have h5331 : TM T H5305 tm B := (TM_fr w5230 gtm f5310 rfl (TM_fr hW gtm f5231 rfl htm))
      have h5332 : DD T H5305 cu  := (DD_fr w5230 gcu f5310 rfl (DD_fr hW gcu f5231 rfl hcu))
      have h5333 : DD T H5305 dr  := (DD_fr w5230 gdr f5310 rfl (DD_fr hW gdr f5231 rfl hdr))
      have h5334 : DE T H5305 cu  := (DE_fr w5230 gcu f5310 rfl (DE_fr hW gcu f5231 rfl hdec))
      have h5335 : DE T H5305 dr  := (DE_fr w5230 gdr f5310 rfl (DE_fr hW gdr f5231 rfl hded))
      have h5336 : SP T H5305 x C8 := (SP_fr w5230 gx f5310 rfl (SP_fr hW gx f5231 rfl hsp))
      have h5337 : CU T H5305 cu e8 d8 n8 := (CU_fr w5230 gcu f5310 rfl (CU_fr hW gcu f5231 rfl hcu8))
      have h5338 : CY T H5305 cu (d8 0 3) g8 (H cu 17) := (CY_fr w5230 gcu f5310 rfl (CY_fr hW gcu f5231 rfl h5219))
      have k5339 : H5305 x 3 = H x 3 := ((f5310 x 3 _ gx rfl).trans (f5231 x 3 _ gx rfl))
      have q5340 : H5305 x 3 = (ce8 : Int) := k5339.trans ece8
      have h5341 : CEN T H5305 ce8 e8 d8 := (CEN_fr w5230 gce8 f5310 rfl p5234)
      have h5342 : HDR T H5305 ce8  := (HDR_fr w5230 gce8 f5310 rfl (HDR_fr hW gce8 f5231 rfl hhdr8))
      have h5343 : RY T H5305 m (d8 0 3) g8 (H m 32) := (RY_fr w5230 gm f5310 rfl (RY_fr hW gm f5231 rfl h5220))
      have h5344 : RB T H5305 m e8 d8 := (RB_fr w5230 gm f5310 rfl h5301)
      exact WL.loc hX (by simp) (next T H5305 ⟨⟨w5309, g0, gx, gm, go, by omega, by omega⟩, ⟨_, tc, tm, cu, dr, _, _, _, _, _, ce8, q5323, gtc, h5330, q5325, gtm, h5331, q5327, gcu, q5329, gdr, h5332, h5333, h5334, h5335, h5336, hC1, hC2, h5337, h5344, (h5338).1, (h5343).1, hE, hZ, (by omega), (by assumption), (by omega), (by first | assumption | exact SG_0), q5340, gce8, h5341, h5342, a5315, gm⟩, by omega, by omega⟩ (by omega) (by omega))
