/-! THE LAW, GONE ON WITH (own work) -/
set_option maxHeartbeats 4000000 in
theorem wl_c29 {kt : Nat → Option mc_E} {CB SB : Nat} {X : mc_S → Prop} {T : wq_T} {H : wq_H} {Len x m o : Nat} {i : Int} (hX : wlX kt CB SB X) (hb : T.2.1 ≤ CB ∧ T.2.2.1 ≤ SB) (hI : wlJ Len x m o T H) (hL : Len ≤ 3072) (hi : 0 ≤ i ∧ i + 6 ≤ Len) (hb2 : T.2.1 + 20 ≤ CB ∧ T.2.2.1 + 500 ≤ SB)  (next : ∀ T' H', wlJ Len x m o T' H' → T'.2.1 ≤ T.2.1 + 20 → T'.2.2.1 ≤ T.2.2.1 + 500 → WL kt CB SB X 1653 (wlL i x m o) [] T' H') : WL kt CB SB X 1109 (wlL i x m o) [] T H := by
  obtain ⟨⟨hW, g0, gx, gm, go, hK, hr⟩, hXI, hY1, hY2⟩ := hI
  refine wl_of hX hb cL_1109 (rw_aload_n (pc' := 1110) (v := .ref x) rfl rfl rfl ?_)
  refine wl_of hX hb cL_1110 (rw_aload_n (pc' := 1111) (v := .ref 0) rfl rfl rfl ?_)
  refine wl_of hX hb cL_1111 (rw_iload (pc' := 1113) (z := i) rfl rfl ?_)
  refine wl_of hX hb cL_1113 (rw_iconst (pc' := 1114) rfl ?_)
  refine wl_of hX hb cL_1114 (rw_iadd (pc' := 1115) rfl ?_)
  refine wl_of hX hb cL_1115 (xa_I (so := 0) (pc' := 1116) (a := 0) hW g0 (wsh_s _) (by omega) (wty_s _ _) (by omega) (by omega) rfl (fun b4609 b4610 => ?_))
  refine wl_of hX hb cL_1116 (rw_aload_n (pc' := 1117) (v := .ref 0) rfl rfl rfl ?_)
  refine wl_of hX hb cL_1117 (rw_iload (pc' := 1119) (z := i) rfl rfl ?_)
  refine wl_of hX hb cL_1119 (rw_iconst (pc' := 1120) rfl ?_)
  refine wl_of hX hb cL_1120 (rw_iadd (pc' := 1121) rfl ?_)
  refine wl_of hX hb cL_1121 (xa_I (so := 0) (pc' := 1122) (a := 0) hW g0 (wsh_s _) (by omega) (wty_s _ _) (by omega) (by omega) rfl (fun b4611 b4612 => ?_))
  refine wl_of hX hb cL_1122 (rw_if_eq (p1 := 1129) (p2 := 1125) (by decide) rfl ⟨by omega, by omega⟩ (fun c4613 => ?_) (fun c4613 => ?_))
  · refine wl_of hX hb cL_1129 (rw_iconst (pc' := 1130) rfl ?_)
    obtain ⟨B, tc, tm, cu, dr, C8, e8, d8, n8, g8, ce8, e0, gtc, htc, em, gtm, htm, ecu, gcu, edr, gdr, hcu, hdr, hdec, hded, hsp, hC1, hC2, hcu8, hrb8, hcg8, hmn8, hE, hZ, hn8, hXA, hV8, hSG, ece8, gce8, hcen8, hhdr8, hknn8, -⟩ := hXI
    have hN3 := RB_n3 hrb8
    have hE13 : ∀ h : Nat, h < 24 → 0 ≤ e8 13 h ∧ e8 13 h ≤ 100 := fun k hk => by
      obtain ⟨s, h1, h2, h3⟩ := hcu8.1.2.2.1
      exact ⟨(h3 k hk).1, (h3 k hk).2.1⟩
    have hXW := hXA.1
    have hXN := hXA.2
    have hE0 : e8 0 3 = d8 0 3 ∧ e8 0 0 = d8 0 0 := by
      have h := hE 0 (by decide)
      exact ⟨congrFun h 3, congrFun h 0⟩
    have u4614 := CU_k hcu8
    have h4615 : CY T H cu (d8 0 3) g8 (H cu 17) := ⟨hcg8, rfl⟩
    have h4616 : RY T H m (d8 0 3) g8 (H m 32) := ⟨hmn8, rfl⟩
    obtain ⟨t9, ht9⟩ : ∃ t : Int, t = H x 9 := ⟨_, rfl⟩
    obtain ⟨y9, hy9⟩ : ∃ y : Int, y = 0 := ⟨_, rfl⟩
    obtain ⟨r4617, q4618, g4619⟩ := hW.ref gx (t' := 6) (n := 13) (j := 2) (p := 0) (q := 0) rfl (by decide) rfl
    refine wl_of hX hb cL_1130 (xc_V (pc' := 1133) (r := x) (as := [vI (H 0 ((i + 1).toNat)), vI 0]) (st := []) (lm_11_143) rfl rfl (Nat.le_of_ble_eq_true rfl) hW gx sh_1 (by decide) rfl (by decide) (u_119 (e := e8) (d := d8) (n := n8) hW gx ⟨by omega, by omega⟩ ⟨by decide, by decide⟩ ecu gcu q4618 g4619 ece8 gce8 (by assumption) (by assumption) (by omega) (by omega) (by omega) (by omega) hcu8 hcen8 hhdr8) (fun R4620 T4621 H4622 p4623 => ?_))
    obtain ⟨e4624, w4626, f4627, z4628, e4625, b4629, p4630⟩ := p4623
    subst e4624
    subst e4625
    show WL _ _ _ _ 1133 [(4, vI i), (3, .ref o), (2, .ref m), (1, .ref x), (0, .ref 0)] [vI z4628] _ H4622
    refine wl_of hX hb cL_1133 (rw_pop (pc' := 1134) rfl rfl ?_)
    refine wl_of hX hb cL_1134 (rw_aload_n (pc' := 1135) (v := .ref m) rfl rfl rfl ?_)
    refine wl_of hX hb cL_1135 (rw_aload_n (pc' := 1136) (v := .ref 0) rfl rfl rfl ?_)
    refine wl_of hX hb cL_1136 (rw_iload (pc' := 1138) (z := i) rfl rfl ?_)
    refine wl_of hX hb cL_1138 (rw_iconst (pc' := 1139) rfl ?_)
    refine wl_of hX hb cL_1139 (rw_iadd (pc' := 1140) rfl ?_)
    have k4634 : H4622 0 ((i + 1).toNat) = H 0 ((i + 1).toNat) := (f4627 0 ((i + 1).toNat) _ g0 (wmem_s rfl))
    refine wl_of hX hb cL_1140 (xa_I (so := 0) (pc' := 1141) (a := 0) w4626 g0 (wsh_s _) (by omega) (wty_s _ _) (by omega) (by omega) rfl (fun b4632 b4633 => ?_))
    refine wl_of hX hb cL_1141 (rw_aload_n (pc' := 1142) (v := .ref 0) rfl rfl rfl ?_)
    refine wl_of hX hb cL_1142 (rw_iload (pc' := 1144) (z := i) rfl rfl ?_)
    refine wl_of hX hb cL_1144 (rw_iconst (pc' := 1145) rfl ?_)
    refine wl_of hX hb cL_1145 (rw_iadd (pc' := 1146) rfl ?_)
    have k4637 : H4622 0 ((i + 2).toNat) = H 0 ((i + 2).toNat) := (f4627 0 ((i + 2).toNat) _ g0 (wmem_s rfl))
    refine wl_of hX hb cL_1146 (xa_I (so := 0) (pc' := 1147) (a := 0) w4626 g0 (wsh_s _) (by omega) (wty_s _ _) (by omega) (by omega) rfl (fun b4635 b4636 => ?_))
    refine wl_of hX hb cL_1147 (rw_if_eq (p1 := 1154) (p2 := 1150) (by decide) rfl ⟨by omega, by omega⟩ (fun c4638 => ?_) (fun c4638 => ?_))
    · refine wl_of hX hb cL_1154 (rw_iconst (pc' := 1155) rfl ?_)
      have k4639 : wKI H4622 m = wKI H m := (wKI_fr hW gm f4627 rfl)
      have k4640 : H4622 x 9 = H x 9 := (f4627 x 9 _ gx rfl)
      have k4641 : H4622 m 6 = H m 6 := (f4627 m 6 _ gm rfl)
      have k4642 : H4622 x 11 = H x 11 := (f4627 x 11 _ gx rfl)
      have k4643 : H4622 m 13 = H m 13 := (f4627 m 13 _ gm rfl)
      have k4644 : H4622 x 8 = H x 8 := (f4627 x 8 _ gx rfl)
      have k4645 : H4622 m 3 = H m 3 := (f4627 m 3 _ gm rfl)
      rw [show H4622 0 ((i + 1).toNat) = H 0 ((i + 1).toNat) by omega]
      have h4646 : RB T H4622 m e8 d8 := (RB_fr hW gm f4627 rfl hrb8)
      have h4647 : KNN T H4622 m e8 d8 := (KNN_fr hW gm f4627 rfl hknn8)
      refine wl_of hX hb cL_1155 (xc_V (pc' := 1158) (r := m) (as := [vI (H 0 ((i + 1).toNat)), vI 0]) (st := []) (lm_11_146) rfl rfl (Nat.le_of_ble_eq_true rfl) w4626 gm sh_42 (by decide) rfl (by decide) (u_265 (e := e8) (d := d8) w4626 gm ⟨by omega, by omega⟩ ⟨by decide, by decide⟩ (by omega) (by assumption) (by assumption) (by assumption) (by assumption) h4646 h4647) (fun R4648 T4649 H4650 p4651 => ?_))
      obtain ⟨e4652, w4654, f4655, z4656, e4653, b4657, p4658⟩ := p4651
      subst e4652
      subst e4653
      obtain ⟨a4659, a4660⟩ := p4658
      show WL _ _ _ _ 1158 [(4, vI i), (3, .ref o), (2, .ref m), (1, .ref x), (0, .ref 0)] [vI z4656] _ H4650
      refine wl_of hX hb cL_1158 (rw_pop (pc' := 1159) rfl rfl ?_)
      refine wl_of hX hb cL_1159 (rw_goto (p1 := 1653) (by decide) ?_)
      have k4661 : H4650 x 9 = H4622 x 9 := (f4655 x 9 _ gx rfl)
      have k4662 : H4650 m 6 = H4622 m 6 := (f4655 m 6 _ gm rfl)
      have k4663 : H4650 x 11 = H4622 x 11 := (f4655 x 11 _ gx rfl)
      have k4664 : H4650 m 13 = H4622 m 13 := (f4655 m 13 _ gm rfl)
      have k4665 : H4650 x 8 = H4622 x 8 := (f4655 x 8 _ gx rfl)
      have k4666 : H4650 m 3 = H4622 m 3 := (f4655 m 3 _ gm rfl)
      have k4667 : H4650 x 0 = H x 0 := ((f4655 x 0 _ gx rfl).trans (f4627 x 0 _ gx rfl))
      have q4668 : H4650 x 0 = (tc : Int) := k4667.trans e0
      have k4669 : H4650 m 5 = H m 5 := ((f4655 m 5 _ gm rfl).trans (f4627 m 5 _ gm rfl))
      have q4670 : H4650 m 5 = (tm : Int) := k4669.trans em
      have k4671 : H4650 x 6 = H x 6 := ((f4655 x 6 _ gx rfl).trans (f4627 x 6 _ gx rfl))
      have q4672 : H4650 x 6 = (cu : Int) := k4671.trans ecu
      have k4673 : H4650 x 7 = H x 7 := ((f4655 x 7 _ gx rfl).trans (f4627 x 7 _ gx rfl))
      have q4674 : H4650 x 7 = (dr : Int) := k4673.trans edr
      have h4675 : CEN T H4650 ce8 e8 d8 := (CEN_fr w4626 gce8 f4655 rfl p4630)
      have h4676 : TP T H4650 tc B := (TP_fr w4626 gtc f4655 rfl (TP_fr hW gtc f4627 rfl htc))
      have h4677 : TM T H4650 tm B := (TM_fr w4626 gtm f4655 rfl (TM_fr hW gtm f4627 rfl htm))
      have h4678 : DD T H4650 cu  := (DD_fr w4626 gcu f4655 rfl (DD_fr hW gcu f4627 rfl hcu))
      have h4679 : DD T H4650 dr  := (DD_fr w4626 gdr f4655 rfl (DD_fr hW gdr f4627 rfl hdr))
      have h4680 : DE T H4650 cu  := (DE_fr w4626 gcu f4655 rfl (DE_fr hW gcu f4627 rfl hdec))
      have h4681 : DE T H4650 dr  := (DE_fr w4626 gdr f4655 rfl (DE_fr hW gdr f4627 rfl hded))
      have h4682 : SP T H4650 x C8 := (SP_fr w4626 gx f4655 rfl (SP_fr hW gx f4627 rfl hsp))
      have h4683 : CU T H4650 cu e8 d8 n8 := (CU_fr w4626 gcu f4655 rfl (CU_fr hW gcu f4627 rfl hcu8))
      have h4684 : CY T H4650 cu (d8 0 3) g8 (H cu 17) := (CY_fr w4626 gcu f4655 rfl (CY_fr hW gcu f4627 rfl h4615))
      have k4685 : H4650 x 3 = H x 3 := ((f4655 x 3 _ gx rfl).trans (f4627 x 3 _ gx rfl))
      have q4686 : H4650 x 3 = (ce8 : Int) := k4685.trans ece8
      have h4687 : HDR T H4650 ce8  := (HDR_fr w4626 gce8 f4655 rfl (HDR_fr hW gce8 f4627 rfl hhdr8))
      have h4688 : RY T H4650 m (d8 0 3) g8 (H m 32) := (RY_fr w4626 gm f4655 rfl (RY_fr hW gm f4627 rfl h4616))
      have h4689 : RB T H4650 m e8 d8 := (RB_fr w4626 gm f4655 rfl h4646)
      exact WL.loc hX (by simp) (next T H4650 ⟨⟨w4654, g0, gx, gm, go, by omega, by omega⟩, ⟨_, tc, tm, cu, dr, _, _, _, _, _, ce8, q4668, gtc, h4676, q4670, gtm, h4677, q4672, gcu, q4674, gdr, h4678, h4679, h4680, h4681, h4682, hC1, hC2, h4683, h4689, (h4684).1, (h4688).1, hE, hZ, (by omega), (by assumption), (by omega), (by first | assumption | exact SG_0), q4686, gce8, h4675, h4687, a4660, gm⟩, by omega, by omega⟩ (by omega) (by omega))
    · exfalso
      omega
  · refine wl_of hX hb cL_1125 (rw_iconst (pc' := 1126) rfl ?_)
    refine wl_of hX hb cL_1126 (rw_goto (p1 := 1130) (by decide) ?_)
    obtain ⟨B, tc, tm, cu, dr, C8, e8, d8, n8, g8, ce8, e0, gtc, htc, em, gtm, htm, ecu, gcu, edr, gdr, hcu, hdr, hdec, hded, hsp, hC1, hC2, hcu8, hrb8, hcg8, hmn8, hE, hZ, hn8, hXA, hV8, hSG, ece8, gce8, hcen8, hhdr8, hknn8, -⟩ := hXI
    have hN3 := RB_n3 hrb8
    have hE13 : ∀ h : Nat, h < 24 → 0 ≤ e8 13 h ∧ e8 13 h ≤ 100 := fun k hk => by
      obtain ⟨s, h1, h2, h3⟩ := hcu8.1.2.2.1
      exact ⟨(h3 k hk).1, (h3 k hk).2.1⟩
    have hXW := hXA.1
    have hXN := hXA.2
    have hE0 : e8 0 3 = d8 0 3 ∧ e8 0 0 = d8 0 0 := by
      have h := hE 0 (by decide)
      exact ⟨congrFun h 3, congrFun h 0⟩
    have u4690 := CU_k hcu8
    have h4691 : CY T H cu (d8 0 3) g8 (H cu 17) := ⟨hcg8, rfl⟩
    have h4692 : RY T H m (d8 0 3) g8 (H m 32) := ⟨hmn8, rfl⟩
    obtain ⟨t9, ht9⟩ : ∃ t : Int, t = H x 9 := ⟨_, rfl⟩
    obtain ⟨y9, hy9⟩ : ∃ y : Int, y = 1 := ⟨_, rfl⟩
    obtain ⟨r4693, q4694, g4695⟩ := hW.ref gx (t' := 6) (n := 13) (j := 2) (p := 0) (q := 0) rfl (by decide) rfl
    refine wl_of hX hb cL_1130 (xc_V (pc' := 1133) (r := x) (as := [vI (H 0 ((i + 1).toNat)), vI 1]) (st := []) (lm_11_143) rfl rfl (Nat.le_of_ble_eq_true rfl) hW gx sh_1 (by decide) rfl (by decide) (u_119 (e := e8) (d := d8) (n := n8) hW gx ⟨by omega, by omega⟩ ⟨by decide, by decide⟩ ecu gcu q4694 g4695 ece8 gce8 (by assumption) (by assumption) (by omega) (by omega) (by omega) (by omega) hcu8 hcen8 hhdr8) (fun R4696 T4697 H4698 p4699 => ?_))
    obtain ⟨e4700, w4702, f4703, z4704, e4701, b4705, p4706⟩ := p4699
    subst e4700
    subst e4701
    show WL _ _ _ _ 1133 [(4, vI i), (3, .ref o), (2, .ref m), (1, .ref x), (0, .ref 0)] [vI z4704] _ H4698
    refine wl_of hX hb cL_1133 (rw_pop (pc' := 1134) rfl rfl ?_)
    refine wl_of hX hb cL_1134 (rw_aload_n (pc' := 1135) (v := .ref m) rfl rfl rfl ?_)
    refine wl_of hX hb cL_1135 (rw_aload_n (pc' := 1136) (v := .ref 0) rfl rfl rfl ?_)
    refine wl_of hX hb cL_1136 (rw_iload (pc' := 1138) (z := i) rfl rfl ?_)
    refine wl_of hX hb cL_1138 (rw_iconst (pc' := 1139) rfl ?_)
    refine wl_of hX hb cL_1139 (rw_iadd (pc' := 1140) rfl ?_)
    have k4710 : H4698 0 ((i + 1).toNat) = H 0 ((i + 1).toNat) := (f4703 0 ((i + 1).toNat) _ g0 (wmem_s rfl))
    refine wl_of hX hb cL_1140 (xa_I (so := 0) (pc' := 1141) (a := 0) w4702 g0 (wsh_s _) (by omega) (wty_s _ _) (by omega) (by omega) rfl (fun b4708 b4709 => ?_))
    refine wl_of hX hb cL_1141 (rw_aload_n (pc' := 1142) (v := .ref 0) rfl rfl rfl ?_)
    refine wl_of hX hb cL_1142 (rw_iload (pc' := 1144) (z := i) rfl rfl ?_)
    refine wl_of hX hb cL_1144 (rw_iconst (pc' := 1145) rfl ?_)
    refine wl_of hX hb cL_1145 (rw_iadd (pc' := 1146) rfl ?_)
    have k4713 : H4698 0 ((i + 2).toNat) = H 0 ((i + 2).toNat) := (f4703 0 ((i + 2).toNat) _ g0 (wmem_s rfl))
    refine wl_of hX hb cL_1146 (xa_I (so := 0) (pc' := 1147) (a := 0) w4702 g0 (wsh_s _) (by omega) (wty_s _ _) (by omega) (by omega) rfl (fun b4711 b4712 => ?_))
    refine wl_of hX hb cL_1147 (rw_if_eq (p1 := 1154) (p2 := 1150) (by decide) rfl ⟨by omega, by omega⟩ (fun c4714 => ?_) (fun c4714 => ?_))
    · refine wl_of hX hb cL_1154 (rw_iconst (pc' := 1155) rfl ?_)
      have k4715 : wKI H4698 m = wKI H m := (wKI_fr hW gm f4703 rfl)
      have k4716 : H4698 x 9 = H x 9 := (f4703 x 9 _ gx rfl)
      have k4717 : H4698 m 6 = H m 6 := (f4703 m 6 _ gm rfl)
      have k4718 : H4698 x 11 = H x 11 := (f4703 x 11 _ gx rfl)
      have k4719 : H4698 m 13 = H m 13 := (f4703 m 13 _ gm rfl)
      have k4720 : H4698 x 8 = H x 8 := (f4703 x 8 _ gx rfl)
      have k4721 : H4698 m 3 = H m 3 := (f4703 m 3 _ gm rfl)
      rw [show H4698 0 ((i + 1).toNat) = H 0 ((i + 1).toNat) by omega]
      have h4722 : RB T H4698 m e8 d8 := (RB_fr hW gm f4703 rfl hrb8)
      have h4723 : KNN T H4698 m e8 d8 := (KNN_fr hW gm f4703 rfl hknn8)
      refine wl_of hX hb cL_1155 (xc_V (pc' := 1158) (r := m) (as := [vI (H 0 ((i + 1).toNat)), vI 0]) (st := []) (lm_11_146) rfl rfl (Nat.le_of_ble_eq_true rfl) w4702 gm sh_42 (by decide) rfl (by decide) (u_265 (e := e8) (d := d8) w4702 gm ⟨by omega, by omega⟩ ⟨by decide, by decide⟩ (by omega) (by assumption) (by assumption) (by assumption) (by assumption) h4722 h4723) (fun R4724 T4725 H4726 p4727 => ?_))
      obtain ⟨e4728, w4730, f4731, z4732, e4729, b4733, p4734⟩ := p4727
      subst e4728
      subst e4729
      obtain ⟨a4735, a4736⟩ := p4734
      show WL _ _ _ _ 1158 [(4, vI i), (3, .ref o), (2, .ref m), (1, .ref x), (0, .ref 0)] [vI z4732] _ H4726
      refine wl_of hX hb cL_1158 (rw_pop (pc' := 1159) rfl rfl ?_)
      refine wl_of hX hb cL_1159 (rw_goto (p1 := 1653) (by decide) ?_)
      have k4737 : H4726 x 9 = H4698 x 9 := (f4731 x 9 _ gx rfl)
      have k4738 : H4726 m 6 = H4698 m 6 := (f4731 m 6 _ gm rfl)
      have k4739 : H4726 x 11 = H4698 x 11 := (f4731 x 11 _ gx rfl)
      have k4740 : H4726 m 13 = H4698 m 13 := (f4731 m 13 _ gm rfl)
      have k4741 : H4726 x 8 = H4698 x 8 := (f4731 x 8 _ gx rfl)
      have k4742 : H4726 m 3 = H4698 m 3 := (f4731 m 3 _ gm rfl)
      have k4743 : H4726 x 0 = H x 0 := ((f4731 x 0 _ gx rfl).trans (f4703 x 0 _ gx rfl))
      have q4744 : H4726 x 0 = (tc : Int) := k4743.trans e0
      have k4745 : H4726 m 5 = H m 5 := ((f4731 m 5 _ gm rfl).trans (f4703 m 5 _ gm rfl))
      have q4746 : H4726 m 5 = (tm : Int) := k4745.trans em
      have k4747 : H4726 x 6 = H x 6 := ((f4731 x 6 _ gx rfl).trans (f4703 x 6 _ gx rfl))
      have q4748 : H4726 x 6 = (cu : Int) := k4747.trans ecu
      have k4749 : H4726 x 7 = H x 7 := ((f4731 x 7 _ gx rfl).trans (f4703 x 7 _ gx rfl))
      have q4750 : H4726 x 7 = (dr : Int) := k4749.trans edr
      have h4751 : CEN T H4726 ce8 e8 d8 := (CEN_fr w4702 gce8 f4731 rfl p4706)
      have h4752 : TP T H4726 tc B := (TP_fr w4702 gtc f4731 rfl (TP_fr hW gtc f4703 rfl htc))
      have h4753 : TM T H4726 tm B := (TM_fr w4702 gtm f4731 rfl (TM_fr hW gtm f4703 rfl htm))
      have h4754 : DD T H4726 cu  := (DD_fr w4702 gcu f4731 rfl (DD_fr hW gcu f4703 rfl hcu))
      have h4755 : DD T H4726 dr  := (DD_fr w4702 gdr f4731 rfl (DD_fr hW gdr f4703 rfl hdr))
      have h4756 : DE T H4726 cu  := (DE_fr w4702 gcu f4731 rfl (DE_fr hW gcu f4703 rfl hdec))
      have h4757 : DE T H4726 dr  := (DE_fr w4702 gdr f4731 rfl (DE_fr hW gdr f4703 rfl hded))
      have h4758 : SP T H4726 x C8 := (SP_fr w4702 gx f4731 rfl (SP_fr hW gx f4703 rfl hsp))
      have h4759 : CU T H4726 cu e8 d8 n8 := (CU_fr w4702 gcu f4731 rfl (CU_fr hW gcu f4703 rfl hcu8))
      have h4760 : CY T H4726 cu (d8 0 3) g8 (H cu 17) := (CY_fr w4702 gcu f4731 rfl (CY_fr hW gcu f4703 rfl h4691))
      have k4761 : H4726 x 3 = H x 3 := ((f4731 x 3 _ gx rfl).trans (f4703 x 3 _ gx rfl))
      have q4762 : H4726 x 3 = (ce8 : Int) := k4761.trans ece8
      have h4763 : HDR T H4726 ce8  := (HDR_fr w4702 gce8 f4731 rfl (HDR_fr hW gce8 f4703 rfl hhdr8))
      have h4764 : RY T H4726 m (d8 0 3) g8 (H m 32) := (RY_fr w4702 gm f4731 rfl (RY_fr hW gm f4703 rfl h4692))
      have h4765 : RB T H4726 m e8 d8 := (RB_fr w4702 gm f4731 rfl h4722)
      exact WL.loc hX (by simp) (next T H4726 ⟨⟨w4730, g0, gx, gm, go, by omega, by omega⟩, ⟨_, tc, tm, cu, dr, _, _, _, _, _, ce8, q4744, gtc, h4752, q4746, gtm, h4753, q4748, gcu, q4750, gdr, h4754, h4755, h4756, h4757, h4758, hC1, hC2, h4759, h4765, (h4760).1, (h4764).1, hE, hZ, (by omega), (by assumption), (by omega), (by first | assumption | exact SG_0), q4762, gce8, h4751, h4763, a4736, gm⟩, by omega, by omega⟩ (by omega) (by omega))
    · refine wl_of hX hb cL_1150 (rw_iconst (pc' := 1151) rfl ?_)
      refine wl_of hX hb cL_1151 (rw_goto (p1 := 1155) (by decide) ?_)
      have k4766 : wKI H4698 m = wKI H m := (wKI_fr hW gm f4703 rfl)
      have k4767 : H4698 x 9 = H x 9 := (f4703 x 9 _ gx rfl)
      have k4768 : H4698 m 6 = H m 6 := (f4703 m 6 _ gm rfl)
      have k4769 : H4698 x 11 = H x 11 := (f4703 x 11 _ gx rfl)
      have k4770 : H4698 m 13 = H m 13 := (f4703 m 13 _ gm rfl)
      have k4771 : H4698 x 8 = H x 8 := (f4703 x 8 _ gx rfl)
      have k4772 : H4698 m 3 = H m 3 := (f4703 m 3 _ gm rfl)
      rw [show H4698 0 ((i + 1).toNat) = H 0 ((i + 1).toNat) by omega]
      have h4773 : RB T H4698 m e8 d8 := (RB_fr hW gm f4703 rfl hrb8)
      have h4774 : KNN T H4698 m e8 d8 := (KNN_fr hW gm f4703 rfl hknn8)
      refine wl_of hX hb cL_1155 (xc_V (pc' := 1158) (r := m) (as := [vI (H 0 ((i + 1).toNat)), vI 1]) (st := []) (lm_11_146) rfl rfl (Nat.le_of_ble_eq_true rfl) w4702 gm sh_42 (by decide) rfl (by decide) (u_265 (e := e8) (d := d8) w4702 gm ⟨by omega, by omega⟩ ⟨by decide, by decide⟩ (by omega) (by assumption) (by assumption) (by assumption) (by assumption) h4773 h4774) (fun R4775 T4776 H4777 p4778 => ?_))
      obtain ⟨e4779, w4781, f4782, z4783, e4780, b4784, p4785⟩ := p4778
      subst e4779
      subst e4780
      obtain ⟨a4786, a4787⟩ := p4785
      show WL _ _ _ _ 1158 [(4, vI i), (3, .ref o), (2, .ref m), (1, .ref x), (0, .ref 0)] [vI z4783] _ H4777
      refine wl_of hX hb cL_1158 (rw_pop (pc' := 1159) rfl rfl ?_)
      refine wl_of hX hb cL_1159 (rw_goto (p1 := 1653) (by decide) ?_)
      have k4788 : H4777 x 9 = H4698 x 9 := (f4782 x 9 _ gx rfl)
      have k4789 : H4777 m 6 = H4698 m 6 := (f4782 m 6 _ gm rfl)
      have k4790 : H4777 x 11 = H4698 x 11 := (f4782 x 11 _ gx rfl)
      have k4791 : H4777 m 13 = H4698 m 13 := (f4782 m 13 _ gm rfl)
      have k4792 : H4777 x 8 = H4698 x 8 := (f4782 x 8 _ gx rfl)
      have k4793 : H4777 m 3 = H4698 m 3 := (f4782 m 3 _ gm rfl)
      have k4794 : H4777 x 0 = H x 0 := ((f4782 x 0 _ gx rfl).trans (f4703 x 0 _ gx rfl))
      have q4795 : H4777 x 0 = (tc : Int) := k4794.trans e0
      have k4796 : H4777 m 5 = H m 5 := ((f4782 m 5 _ gm rfl).trans (f4703 m 5 _ gm rfl))
      have q4797 : H4777 m 5 = (tm : Int) := k4796.trans em
      have k4798 : H4777 x 6 = H x 6 := ((f4782 x 6 _ gx rfl).trans (f4703 x 6 _ gx rfl))
      have q4799 : H4777 x 6 = (cu : Int) := k4798.trans ecu
      have k4800 : H4777 x 7 = H x 7 := ((f4782 x 7 _ gx rfl).trans (f4703 x 7 _ gx rfl))
      have q4801 : H4777 x 7 = (dr : Int) := k4800.trans edr
      have h4802 : CEN T H4777 ce8 e8 d8 := (CEN_fr w4702 gce8 f4782 rfl p4706)
      have h4803 : TP T H4777 tc B := (TP_fr w4702 gtc f4782 rfl (TP_fr hW gtc f4703 rfl htc))
      have h4804 : TM T H4777 tm B := (TM_fr w4702 gtm f4782 rfl (TM_fr hW gtm f4703 rfl htm))
      have h4805 : DD T H4777 cu  := (DD_fr w4702 gcu f4782 rfl (DD_fr hW gcu f4703 rfl hcu))
      have h4806 : DD T H4777 dr  := (DD_fr w4702 gdr f4782 rfl (DD_fr hW gdr f4703 rfl hdr))
      have h4807 : DE T H4777 cu  := (DE_fr w4702 gcu f4782 rfl (DE_fr hW gcu f4703 rfl hdec))
      have h4808 : DE T H4777 dr  := (DE_fr w4702 gdr f4782 rfl (DE_fr hW gdr f4703 rfl hded))
      have h4809 : SP T H4777 x C8 := (SP_fr w4702 gx f4782 rfl (SP_fr hW gx f4703 rfl hsp))
      have h4810 : CU T H4777 cu e8 d8 n8 := (CU_fr w4702 gcu f4782 rfl (CU_fr hW gcu f4703 rfl hcu8))
      have h4811 : CY T H4777 cu (d8 0 3) g8 (H cu 17) := (CY_fr w4702 gcu f4782 rfl (CY_fr hW gcu f4703 rfl h4691))
      have k4812 : H4777 x 3 = H x 3 := ((f4782 x 3 _ gx rfl).trans (f4703 x 3 _ gx rfl))
      have q4813 : H4777 x 3 = (ce8 : Int) := k4812.trans ece8
      have h4814 : HDR T H4777 ce8  := (HDR_fr w4702 gce8 f4782 rfl (HDR_fr hW gce8 f4703 rfl hhdr8))
      have h4815 : RY T H4777 m (d8 0 3) g8 (H m 32) := (RY_fr w4702 gm f4782 rfl (RY_fr hW gm f4703 rfl h4692))
      have h4816 : RB T H4777 m e8 d8 := (RB_fr w4702 gm f4782 rfl h4773)
      exact WL.loc hX (by simp) (next T H4777 ⟨⟨w4781, g0, gx, gm, go, by omega, by omega⟩, ⟨_, tc, tm, cu, dr, _, _, _, _, _, ce8, q4795, gtc, h4803, q4797, gtm, h4804, q4799, gcu, q4801, gdr, h4805, h4806, h4807, h4808, h4809, hC1, hC2, h4810, h4816, (h4811).1, (h4815).1, hE, hZ, (by omega), (by assumption), (by omega), (by first | assumption | exact SG_0), q4813, gce8, h4802, h4814, a4787, gm⟩, by omega, by omega⟩ (by omega) (by omega))
set_option maxHeartbeats 4000000 in
theorem wl_c30 {kt : Nat → Option mc_E} {CB SB : Nat} {X : mc_S → Prop} {T : wq_T} {H : wq_H} {Len x m o : Nat} {i : Int} (hX : wlX kt CB SB X) (hb : T.2.1 ≤ CB ∧ T.2.2.1 ≤ SB) (hI : wlJ Len x m o T H) (hL : Len ≤ 3072) (hi : 0 ≤ i ∧ i + 6 ≤ Len) (hb2 : T.2.1 + 20 ≤ CB ∧ T.2.2.1 + 500 ≤ SB)  (next : ∀ T' H', wlJ Len x m o T' H' → T'.2.1 ≤ T.2.1 + 20 → T'.2.2.1 ≤ T.2.2.1 + 500 → WL kt CB SB X 1653 (wlL i x m o) [] T' H') : WL kt CB SB X 1162 (wlL i x m o) [] T H := by
  obtain ⟨⟨hW, g0, gx, gm, go, hK, hr⟩, hXI, hY1, hY2⟩ := hI
  refine wl_of hX hb cL_1162 (rw_aload_n (pc' := 1163) (v := .ref x) rfl rfl rfl ?_)
  obtain ⟨B, tc, tm, cu, dr, C8, e8, d8, n8, g8, ce8, e0, gtc, htc, em, gtm, htm, ecu, gcu, edr, gdr, hcu, hdr, hdec, hded, hsp, hC1, hC2, hcu8, hrb8, hcg8, hmn8, hE, hZ, hn8, hXA, hV8, hSG, ece8, gce8, hcen8, hhdr8, hknn8, -⟩ := hXI
  have hN3 := RB_n3 hrb8
  have hE13 : ∀ h : Nat, h < 24 → 0 ≤ e8 13 h ∧ e8 13 h ≤ 100 := fun k hk => by
    obtain ⟨s, h1, h2, h3⟩ := hcu8.1.2.2.1
    exact ⟨(h3 k hk).1, (h3 k hk).2.1⟩
  have hXW := hXA.1
  have hXN := hXA.2
  have hE0 : e8 0 3 = d8 0 3 ∧ e8 0 0 = d8 0 0 := by
    have h := hE 0 (by decide)
    exact ⟨congrFun h 3, congrFun h 0⟩
  have u4817 := CU_k hcu8
  have h4818 : CY T H cu (d8 0 3) g8 (H cu 17) := ⟨hcg8, rfl⟩
  have h4819 : RY T H m (d8 0 3) g8 (H m 32) := ⟨hmn8, rfl⟩
  obtain ⟨t9, ht9⟩ : ∃ t : Int, t = H x 9 := ⟨_, rfl⟩
  obtain ⟨r4820, q4821, g4822⟩ := hW.ref gx (t' := 6) (n := 13) (j := 2) (p := 0) (q := 0) rfl (by decide) rfl
  refine wl_of hX hb cL_1163 (xc_V (pc' := 1166) (r := x) (as := []) (st := []) (lm_11_147) rfl rfl (Nat.le_of_ble_eq_true rfl) hW gx sh_1 (by decide) rfl (by decide) (u_120 (e := e8) (d := d8) (n := n8) hW gx ecu gcu q4821 g4822 ece8 gce8 (by assumption) (by assumption) (by omega) (by omega) (by omega) (by omega) hcu8 hcen8 hhdr8) (fun R4823 T4824 H4825 p4826 => ?_))
  obtain ⟨e4827, w4829, f4830, z4831, e4828, b4832, p4833⟩ := p4826
  subst e4827
  subst e4828
  show WL _ _ _ _ 1166 [(4, vI i), (3, .ref o), (2, .ref m), (1, .ref x), (0, .ref 0)] [vI z4831] _ H4825
  refine wl_of hX hb cL_1166 (rw_pop (pc' := 1167) rfl rfl ?_)
  refine wl_of hX hb cL_1167 (rw_aload_n (pc' := 1168) (v := .ref m) rfl rfl rfl ?_)
  have k4835 : wKI H4825 m = wKI H m := (wKI_fr hW gm f4830 rfl)
  have k4836 : H4825 x 9 = H x 9 := (f4830 x 9 _ gx rfl)
  have k4837 : H4825 m 6 = H m 6 := (f4830 m 6 _ gm rfl)
  have k4838 : H4825 x 11 = H x 11 := (f4830 x 11 _ gx rfl)
  have k4839 : H4825 m 13 = H m 13 := (f4830 m 13 _ gm rfl)
  have k4840 : H4825 x 8 = H x 8 := (f4830 x 8 _ gx rfl)
  have k4841 : H4825 m 3 = H m 3 := (f4830 m 3 _ gm rfl)
  have h4842 : RB T H4825 m e8 d8 := (RB_fr hW gm f4830 rfl hrb8)
  have h4843 : KNN T H4825 m e8 d8 := (KNN_fr hW gm f4830 rfl hknn8)
  refine wl_of hX hb cL_1168 (xc_V (pc' := 1171) (r := m) (as := []) (st := []) (lm_11_150) rfl rfl (Nat.le_of_ble_eq_true rfl) w4829 gm sh_42 (by decide) rfl (by decide) (u_266 (e := e8) (d := d8) w4829 gm (by omega) (by assumption) (by assumption) (by assumption) (by assumption) h4842 h4843) (fun R4844 T4845 H4846 p4847 => ?_))
  obtain ⟨e4848, w4850, f4851, z4852, e4849, b4853, p4854⟩ := p4847
  subst e4848
  subst e4849
  obtain ⟨a4855, a4856⟩ := p4854
  show WL _ _ _ _ 1171 [(4, vI i), (3, .ref o), (2, .ref m), (1, .ref x), (0, .ref 0)] [vI z4852] _ H4846
  refine wl_of hX hb cL_1171 (rw_pop (pc' := 1172) rfl rfl ?_)
  refine wl_of hX hb cL_1172 (rw_goto (p1 := 1653) (by decide) ?_)
  have k4857 : H4846 x 9 = H4825 x 9 := (f4851 x 9 _ gx rfl)
  have k4858 : H4846 m 6 = H4825 m 6 := (f4851 m 6 _ gm rfl)
  have k4859 : H4846 x 11 = H4825 x 11 := (f4851 x 11 _ gx rfl)
  have k4860 : H4846 m 13 = H4825 m 13 := (f4851 m 13 _ gm rfl)
  have k4861 : H4846 x 8 = H4825 x 8 := (f4851 x 8 _ gx rfl)
  have k4862 : H4846 m 3 = H4825 m 3 := (f4851 m 3 _ gm rfl)
  have k4863 : H4846 x 0 = H x 0 := ((f4851 x 0 _ gx rfl).trans (f4830 x 0 _ gx rfl))
  have q4864 : H4846 x 0 = (tc : Int) := k4863.trans e0
  have k4865 : H4846 m 5 = H m 5 := ((f4851 m 5 _ gm rfl).trans (f4830 m 5 _ gm rfl))
  have q4866 : H4846 m 5 = (tm : Int) := k4865.trans em
  have k4867 : H4846 x 6 = H x 6 := ((f4851 x 6 _ gx rfl).trans (f4830 x 6 _ gx rfl))
  have q4868 : H4846 x 6 = (cu : Int) := k4867.trans ecu
  have k4869 : H4846 x 7 = H x 7 := ((f4851 x 7 _ gx rfl).trans (f4830 x 7 _ gx rfl))
  have q4870 : H4846 x 7 = (dr : Int) := k4869.trans edr
  have h4871 : CEN T H4846 ce8 e8 d8 := (CEN_fr w4829 gce8 f4851 rfl p4833)
  have h4872 : TP T H4846 tc B := (TP_fr w4829 gtc f4851 rfl (TP_fr hW gtc f4830 rfl htc))
  have h4873 : TM T H4846 tm B := (TM_fr w4829 gtm f4851 rfl (TM_fr hW gtm f4830 rfl htm))
  have h4874 : DD T H4846 cu  := (DD_fr w4829 gcu f4851 rfl (DD_fr hW gcu f4830 rfl hcu))
  have h4875 : DD T H4846 dr  := (DD_fr w4829 gdr f4851 rfl (DD_fr hW gdr f4830 rfl hdr))
  have h4876 : DE T H4846 cu  := (DE_fr w4829 gcu f4851 rfl (DE_fr hW gcu f4830 rfl hdec))
  have h4877 : DE T H4846 dr  := (DE_fr w4829 gdr f4851 rfl (DE_fr hW gdr f4830 rfl hded))
  have h4878 : SP T H4846 x C8 := (SP_fr w4829 gx f4851 rfl (SP_fr hW gx f4830 rfl hsp))
  have h4879 : CU T H4846 cu e8 d8 n8 := (CU_fr w4829 gcu f4851 rfl (CU_fr hW gcu f4830 rfl hcu8))
  have h4880 : CY T H4846 cu (d8 0 3) g8 (H cu 17) := (CY_fr w4829 gcu f4851 rfl (CY_fr hW gcu f4830 rfl h4818))
  have k4881 : H4846 x 3 = H x 3 := ((f4851 x 3 _ gx rfl).trans (f4830 x 3 _ gx rfl))
  have q4882 : H4846 x 3 = (ce8 : Int) := k4881.trans ece8
  have h4883 : HDR T H4846 ce8  := (HDR_fr w4829 gce8 f4851 rfl (HDR_fr hW gce8 f4830 rfl hhdr8))
  have h4884 : RY T H4846 m (d8 0 3) g8 (H m 32) := (RY_fr w4829 gm f4851 rfl (RY_fr hW gm f4830 rfl h4819))
  have h4885 : RB T H4846 m e8 d8 := (RB_fr w4829 gm f4851 rfl h4842)
  exact WL.loc hX (by simp) (next T H4846 ⟨⟨w4850, g0, gx, gm, go, by omega, by omega⟩, ⟨_, tc, tm, cu, dr, _, _, _, _, _, ce8, q4864, gtc, h4872, q4866, gtm, h4873, q4868, gcu, q4870, gdr, h4874, h4875, h4876, h4877, h4878, hC1, hC2, h4879, h4885, (h4880).1, (h4884).1, hE, hZ, (by omega), (by assumption), (by omega), (by first | assumption | exact SG_0), q4882, gce8, h4871, h4883, a4856, gm⟩, by omega, by omega⟩ (by omega) (by omega))
set_option maxHeartbeats 4000000 in
theorem wl_c31 {kt : Nat → Option mc_E} {CB SB : Nat} {X : mc_S → Prop} {T : wq_T} {H : wq_H} {Len x m o : Nat} {i : Int} (hX : wlX kt CB SB X) (hb : T.2.1 ≤ CB ∧ T.2.2.1 ≤ SB) (hI : wlJ Len x m o T H) (hL : Len ≤ 3072) (hi : 0 ≤ i ∧ i + 6 ≤ Len) (hb2 : T.2.1 + 20 ≤ CB ∧ T.2.2.1 + 500 ≤ SB)  (next : ∀ T' H', wlJ Len x m o T' H' → T'.2.1 ≤ T.2.1 + 20 → T'.2.2.1 ≤ T.2.2.1 + 500 → WL kt CB SB X 1653 (wlL i x m o) [] T' H') : WL kt CB SB X 1175 (wlL i x m o) [] T H := by
  obtain ⟨⟨hW, g0, gx, gm, go, hK, hr⟩, hXI, hY1, hY2⟩ := hI
  refine wl_of hX hb cL_1175 (rw_aload_n (pc' := 1176) (v := .ref x) rfl rfl rfl ?_)
  refine wl_of hX hb cL_1176 (rw_aload_n (pc' := 1177) (v := .ref 0) rfl rfl rfl ?_)
  refine wl_of hX hb cL_1177 (rw_iload (pc' := 1179) (z := i) rfl rfl ?_)
  refine wl_of hX hb cL_1179 (rw_iconst (pc' := 1180) rfl ?_)
  refine wl_of hX hb cL_1180 (rw_iadd (pc' := 1181) rfl ?_)
  refine wl_of hX hb cL_1181 (xa_I (so := 0) (pc' := 1182) (a := 0) hW g0 (wsh_s _) (by omega) (wty_s _ _) (by omega) (by omega) rfl (fun b4886 b4887 => ?_))
  obtain ⟨B, tc, tm, cu, dr, C8, e8, d8, n8, g8, ce8, e0, gtc, htc, em, gtm, htm, ecu, gcu, edr, gdr, hcu, hdr, hdec, hded, hsp, hC1, hC2, hcu8, hrb8, hcg8, hmn8, hE, hZ, hn8, hXA, hV8, hSG, ece8, gce8, hcen8, hhdr8, hknn8, -⟩ := hXI
  have hN3 := RB_n3 hrb8
  have hE13 : ∀ h : Nat, h < 24 → 0 ≤ e8 13 h ∧ e8 13 h ≤ 100 := fun k hk => by
    obtain ⟨s, h1, h2, h3⟩ := hcu8.1.2.2.1
    exact ⟨(h3 k hk).1, (h3 k hk).2.1⟩
  have hXW := hXA.1
  have hXN := hXA.2
  have hE0 : e8 0 3 = d8 0 3 ∧ e8 0 0 = d8 0 0 := by
    have h := hE 0 (by decide)
    exact ⟨congrFun h 3, congrFun h 0⟩
  have u4888 := CU_k hcu8
  have h4889 : CY T H cu (d8 0 3) g8 (H cu 17) := ⟨hcg8, rfl⟩
  have h4890 : RY T H m (d8 0 3) g8 (H m 32) := ⟨hmn8, rfl⟩
  obtain ⟨t9, ht9⟩ : ∃ t : Int, t = H x 9 := ⟨_, rfl⟩
  obtain ⟨y9, hy9⟩ : ∃ y : Int, y = H 0 ((i + 1).toNat) := ⟨_, rfl⟩
  obtain ⟨r4891, q4892, g4893⟩ := hW.ref gx (t' := 6) (n := 13) (j := 2) (p := 0) (q := 0) rfl (by decide) rfl
  refine wl_of hX hb cL_1182 (xc_V (pc' := 1185) (r := x) (as := [vI (H 0 ((i + 1).toNat))]) (st := []) (lm_11_151) rfl rfl (Nat.le_of_ble_eq_true rfl) hW gx sh_1 (by decide) rfl (by decide) (u_130 (e := e8) (d := d8) (n := n8) hW gx ⟨by omega, by omega⟩ ecu gcu q4892 g4893 ece8 gce8 (by assumption) (by assumption) (by omega) (by omega) (by omega) (by omega) hcu8 hcen8 hhdr8) (fun R4894 T4895 H4896 p4897 => ?_))
  obtain ⟨e4898, w4900, f4901, z4902, e4899, b4903, p4904⟩ := p4897
  subst e4898
  subst e4899
  show WL _ _ _ _ 1185 [(4, vI i), (3, .ref o), (2, .ref m), (1, .ref x), (0, .ref 0)] [vI z4902] _ H4896
  refine wl_of hX hb cL_1185 (rw_pop (pc' := 1186) rfl rfl ?_)
  refine wl_of hX hb cL_1186 (rw_aload_n (pc' := 1187) (v := .ref m) rfl rfl rfl ?_)
  refine wl_of hX hb cL_1187 (rw_aload_n (pc' := 1188) (v := .ref 0) rfl rfl rfl ?_)
  refine wl_of hX hb cL_1188 (rw_iload (pc' := 1190) (z := i) rfl rfl ?_)
  refine wl_of hX hb cL_1190 (rw_iconst (pc' := 1191) rfl ?_)
  refine wl_of hX hb cL_1191 (rw_iadd (pc' := 1192) rfl ?_)
  have k4908 : H4896 0 ((i + 1).toNat) = H 0 ((i + 1).toNat) := (f4901 0 ((i + 1).toNat) _ g0 (wmem_s rfl))
  refine wl_of hX hb cL_1192 (xa_I (so := 0) (pc' := 1193) (a := 0) w4900 g0 (wsh_s _) (by omega) (wty_s _ _) (by omega) (by omega) rfl (fun b4906 b4907 => ?_))
  have k4909 : wKI H4896 m = wKI H m := (wKI_fr hW gm f4901 rfl)
  have k4910 : H4896 x 9 = H x 9 := (f4901 x 9 _ gx rfl)
  have k4911 : H4896 m 6 = H m 6 := (f4901 m 6 _ gm rfl)
  have k4912 : H4896 x 11 = H x 11 := (f4901 x 11 _ gx rfl)
  have k4913 : H4896 m 13 = H m 13 := (f4901 m 13 _ gm rfl)
  have k4914 : H4896 x 8 = H x 8 := (f4901 x 8 _ gx rfl)
  have k4915 : H4896 m 3 = H m 3 := (f4901 m 3 _ gm rfl)
  rw [show H4896 0 ((i + 1).toNat) = H 0 ((i + 1).toNat) by omega]
  have h4916 : RB T H4896 m e8 d8 := (RB_fr hW gm f4901 rfl hrb8)
  have h4917 : KNN T H4896 m e8 d8 := (KNN_fr hW gm f4901 rfl hknn8)
  refine wl_of hX hb cL_1193 (xc_V (pc' := 1196) (r := m) (as := [vI (H 0 ((i + 1).toNat))]) (st := []) (lm_11_154) rfl rfl (Nat.le_of_ble_eq_true rfl) w4900 gm sh_42 (by decide) rfl (by decide) (u_271 (e := e8) (d := d8) w4900 gm ⟨by omega, by omega⟩ (by omega) (by assumption) (by assumption) (by assumption) (by assumption) h4916 h4917) (fun R4918 T4919 H4920 p4921 => ?_))
  obtain ⟨e4922, w4924, f4925, z4926, e4923, b4927, p4928⟩ := p4921
  subst e4922
  subst e4923
  obtain ⟨a4929, a4930⟩ := p4928
  show WL _ _ _ _ 1196 [(4, vI i), (3, .ref o), (2, .ref m), (1, .ref x), (0, .ref 0)] [vI z4926] _ H4920
  refine wl_of hX hb cL_1196 (rw_pop (pc' := 1197) rfl rfl ?_)
  refine wl_of hX hb cL_1197 (rw_goto (p1 := 1653) (by decide) ?_)
  have k4931 : H4920 x 9 = H4896 x 9 := (f4925 x 9 _ gx rfl)
  have k4932 : H4920 m 6 = H4896 m 6 := (f4925 m 6 _ gm rfl)
  have k4933 : H4920 x 11 = H4896 x 11 := (f4925 x 11 _ gx rfl)
  have k4934 : H4920 m 13 = H4896 m 13 := (f4925 m 13 _ gm rfl)
  have k4935 : H4920 x 8 = H4896 x 8 := (f4925 x 8 _ gx rfl)
  have k4936 : H4920 m 3 = H4896 m 3 := (f4925 m 3 _ gm rfl)
  have k4937 : H4920 x 0 = H x 0 := ((f4925 x 0 _ gx rfl).trans (f4901 x 0 _ gx rfl))
  have q4938 : H4920 x 0 = (tc : Int) := k4937.trans e0
  have k4939 : H4920 m 5 = H m 5 := ((f4925 m 5 _ gm rfl).trans (f4901 m 5 _ gm rfl))
  have q4940 : H4920 m 5 = (tm : Int) := k4939.trans em
  have k4941 : H4920 x 6 = H x 6 := ((f4925 x 6 _ gx rfl).trans (f4901 x 6 _ gx rfl))
  have q4942 : H4920 x 6 = (cu : Int) := k4941.trans ecu
  have k4943 : H4920 x 7 = H x 7 := ((f4925 x 7 _ gx rfl).trans (f4901 x 7 _ gx rfl))
  have q4944 : H4920 x 7 = (dr : Int) := k4943.trans edr
  have h4945 : CEN T H4920 ce8 e8 d8 := (CEN_fr w4900 gce8 f4925 rfl p4904)
  have h4946 : TP T H4920 tc B := (TP_fr w4900 gtc f4925 rfl (TP_fr hW gtc f4901 rfl htc))
  have h4947 : TM T H4920 tm B := (TM_fr w4900 gtm f4925 rfl (TM_fr hW gtm f4901 rfl htm))
  have h4948 : DD T H4920 cu  := (DD_fr w4900 gcu f4925 rfl (DD_fr hW gcu f4901 rfl hcu))
  have h4949 : DD T H4920 dr  := (DD_fr w4900 gdr f4925 rfl (DD_fr hW gdr f4901 rfl hdr))
  have h4950 : DE T H4920 cu  := (DE_fr w4900 gcu f4925 rfl (DE_fr hW gcu f4901 rfl hdec))
  have h4951 : DE T H4920 dr  := (DE_fr w4900 gdr f4925 rfl (DE_fr hW gdr f4901 rfl hded))
  have h4952 : SP T H4920 x C8 := (SP_fr w4900 gx f4925 rfl (SP_fr hW gx f4901 rfl hsp))
  have h4953 : CU T H4920 cu e8 d8 n8 := (CU_fr w4900 gcu f4925 rfl (CU_fr hW gcu f4901 rfl hcu8))
  have h4954 : CY T H4920 cu (d8 0 3) g8 (H cu 17) := (CY_fr w4900 gcu f4925 rfl (CY_fr hW gcu f4901 rfl h4889))
  have k4955 : H4920 x 3 = H x 3 := ((f4925 x 3 _ gx rfl).trans (f4901 x 3 _ gx rfl))
  have q4956 : H4920 x 3 = (ce8 : Int) := k4955.trans ece8
  have h4957 : HDR T H4920 ce8  := (HDR_fr w4900 gce8 f4925 rfl (HDR_fr hW gce8 f4901 rfl hhdr8))
  have h4958 : RY T H4920 m (d8 0 3) g8 (H m 32) := (RY_fr w4900 gm f4925 rfl (RY_fr hW gm f4901 rfl h4890))
  have h4959 : RB T H4920 m e8 d8 := (RB_fr w4900 gm f4925 rfl h4916)
  exact WL.loc hX (by simp) (next T H4920 ⟨⟨w4924, g0, gx, gm, go, by omega, by omega⟩, ⟨_, tc, tm, cu, dr, _, _, _, _, _, ce8, q4938, gtc, h4946, q4940, gtm, h4947, q4942, gcu, q4944, gdr, h4948, h4949, h4950, h4951, h4952, hC1, hC2, h4953, h4959, (h4954).1, (h4958).1, hE, hZ, (by omega), (by assumption), (by omega), (by first | assumption | exact SG_0), q4956, gce8, h4945, h4957, a4930, gm⟩, by omega, by omega⟩ (by omega) (by omega))
set_option maxHeartbeats 4000000 in
theorem wl_c32 {kt : Nat → Option mc_E} {CB SB : Nat} {X : mc_S → Prop} {T : wq_T} {H : wq_H} {Len x m o : Nat} {i : Int} (hX : wlX kt CB SB X) (hb : T.2.1 ≤ CB ∧ T.2.2.1 ≤ SB) (hI : wlJ Len x m o T H) (hL : Len ≤ 3072) (hi : 0 ≤ i ∧ i + 6 ≤ Len) (hb2 : T.2.1 + 20 ≤ CB ∧ T.2.2.1 + 500 ≤ SB)  (next : ∀ T' H', wlJ Len x m o T' H' → T'.2.1 ≤ T.2.1 + 20 → T'.2.2.1 ≤ T.2.2.1 + 500 → WL kt CB SB X 1653 (wlL i x m o) [] T' H') : WL kt CB SB X 1200 (wlL i x m o) [] T H := by
  obtain ⟨⟨hW, g0, gx, gm, go, hK, hr⟩, hXI, hY1, hY2⟩ := hI
  refine wl_of hX hb cL_1200 (rw_aload_n (pc' := 1201) (v := .ref x) rfl rfl rfl ?_)
  refine wl_of hX hb cL_1201 (rw_aload_n (pc' := 1202) (v := .ref 0) rfl rfl rfl ?_)
  refine wl_of hX hb cL_1202 (rw_iload (pc' := 1204) (z := i) rfl rfl ?_)
  refine wl_of hX hb cL_1204 (rw_iconst (pc' := 1205) rfl ?_)
  refine wl_of hX hb cL_1205 (rw_iadd (pc' := 1206) rfl ?_)
  refine wl_of hX hb cL_1206 (xa_I (so := 0) (pc' := 1207) (a := 0) hW g0 (wsh_s _) (by omega) (wty_s _ _) (by omega) (by omega) rfl (fun b4960 b4961 => ?_))
  obtain ⟨B, tc, tm, cu, dr, C8, e8, d8, n8, g8, ce8, e0, gtc, htc, em, gtm, htm, ecu, gcu, edr, gdr, hcu, hdr, hdec, hded, hsp, hC1, hC2, hcu8, hrb8, hcg8, hmn8, hE, hZ, hn8, hXA, hV8, hSG, ece8, gce8, hcen8, hhdr8, hknn8, -⟩ := hXI
  have hN3 := RB_n3 hrb8
  have hE13 : ∀ h : Nat, h < 24 → 0 ≤ e8 13 h ∧ e8 13 h ≤ 100 := fun k hk => by
    obtain ⟨s, h1, h2, h3⟩ := hcu8.1.2.2.1
    exact ⟨(h3 k hk).1, (h3 k hk).2.1⟩
  have hXW := hXA.1
  have hXN := hXA.2
  have hE0 : e8 0 3 = d8 0 3 ∧ e8 0 0 = d8 0 0 := by
    have h := hE 0 (by decide)
    exact ⟨congrFun h 3, congrFun h 0⟩
  have u4962 := CU_k hcu8
  have h4963 : CY T H cu (d8 0 3) g8 (H cu 17) := ⟨hcg8, rfl⟩
  have h4964 : RY T H m (d8 0 3) g8 (H m 32) := ⟨hmn8, rfl⟩
  obtain ⟨t9, ht9⟩ : ∃ t : Int, t = H x 9 := ⟨_, rfl⟩
  obtain ⟨y9, hy9⟩ : ∃ y : Int, y = H 0 ((i + 1).toNat) := ⟨_, rfl⟩
  obtain ⟨r4965, q4966, g4967⟩ := hW.ref gx (t' := 6) (n := 13) (j := 2) (p := 0) (q := 0) rfl (by decide) rfl
  refine wl_of hX hb cL_1207 (xc_V (pc' := 1210) (r := x) (as := [vI (H 0 ((i + 1).toNat))]) (st := []) (lm_11_155) rfl rfl (Nat.le_of_ble_eq_true rfl) hW gx sh_1 (by decide) rfl (by decide) (u_132 (e := e8) (d := d8) (n := n8) hW gx ⟨by omega, by omega⟩ ecu gcu q4966 g4967 ece8 gce8 (by assumption) (by assumption) (by omega) (by omega) (by omega) (by omega) hcu8 hcen8 hhdr8) (fun R4968 T4969 H4970 p4971 => ?_))
  obtain ⟨e4972, w4974, f4975, z4976, e4973, b4977, p4978⟩ := p4971
  subst e4972
  subst e4973
  show WL _ _ _ _ 1210 [(4, vI i), (3, .ref o), (2, .ref m), (1, .ref x), (0, .ref 0)] [vI z4976] _ H4970
  refine wl_of hX hb cL_1210 (rw_pop (pc' := 1211) rfl rfl ?_)
  refine wl_of hX hb cL_1211 (rw_aload_n (pc' := 1212) (v := .ref m) rfl rfl rfl ?_)
  refine wl_of hX hb cL_1212 (rw_aload_n (pc' := 1213) (v := .ref 0) rfl rfl rfl ?_)
  refine wl_of hX hb cL_1213 (rw_iload (pc' := 1215) (z := i) rfl rfl ?_)
  refine wl_of hX hb cL_1215 (rw_iconst (pc' := 1216) rfl ?_)
  refine wl_of hX hb cL_1216 (rw_iadd (pc' := 1217) rfl ?_)
  have k4982 : H4970 0 ((i + 1).toNat) = H 0 ((i + 1).toNat) := (f4975 0 ((i + 1).toNat) _ g0 (wmem_s rfl))
  refine wl_of hX hb cL_1217 (xa_I (so := 0) (pc' := 1218) (a := 0) w4974 g0 (wsh_s _) (by omega) (wty_s _ _) (by omega) (by omega) rfl (fun b4980 b4981 => ?_))
  have k4983 : wKI H4970 m = wKI H m := (wKI_fr hW gm f4975 rfl)
  have k4984 : H4970 x 9 = H x 9 := (f4975 x 9 _ gx rfl)
  have k4985 : H4970 m 6 = H m 6 := (f4975 m 6 _ gm rfl)
  have k4986 : H4970 x 11 = H x 11 := (f4975 x 11 _ gx rfl)
  have k4987 : H4970 m 13 = H m 13 := (f4975 m 13 _ gm rfl)
  have k4988 : H4970 x 8 = H x 8 := (f4975 x 8 _ gx rfl)
  have k4989 : H4970 m 3 = H m 3 := (f4975 m 3 _ gm rfl)
  rw [show H4970 0 ((i + 1).toNat) = H 0 ((i + 1).toNat) by omega]
  have h4990 : RB T H4970 m e8 d8 := (RB_fr hW gm f4975 rfl hrb8)
  have h4991 : KNN T H4970 m e8 d8 := (KNN_fr hW gm f4975 rfl hknn8)
  refine wl_of hX hb cL_1218 (xc_V (pc' := 1221) (r := m) (as := [vI (H 0 ((i + 1).toNat))]) (st := []) (lm_11_158) rfl rfl (Nat.le_of_ble_eq_true rfl) w4974 gm sh_42 (by decide) rfl (by decide) (u_272 (e := e8) (d := d8) w4974 gm ⟨by omega, by omega⟩ (by omega) (by assumption) (by assumption) (by assumption) (by assumption) h4990 h4991) (fun R4992 T4993 H4994 p4995 => ?_))
  obtain ⟨e4996, w4998, f4999, z5000, e4997, b5001, p5002⟩ := p4995
  subst e4996
  subst e4997
  obtain ⟨a5003, a5004⟩ := p5002
  show WL _ _ _ _ 1221 [(4, vI i), (3, .ref o), (2, .ref m), (1, .ref x), (0, .ref 0)] [vI z5000] _ H4994
  refine wl_of hX hb cL_1221 (rw_pop (pc' := 1222) rfl rfl ?_)
  refine wl_of hX hb cL_1222 (rw_goto (p1 := 1653) (by decide) ?_)
  have k5005 : H4994 x 9 = H4970 x 9 := (f4999 x 9 _ gx rfl)
  have k5006 : H4994 m 6 = H4970 m 6 := (f4999 m 6 _ gm rfl)
  have k5007 : H4994 x 11 = H4970 x 11 := (f4999 x 11 _ gx rfl)
  have k5008 : H4994 m 13 = H4970 m 13 := (f4999 m 13 _ gm rfl)
  have k5009 : H4994 x 8 = H4970 x 8 := (f4999 x 8 _ gx rfl)
  have k5010 : H4994 m 3 = H4970 m 3 := (f4999 m 3 _ gm rfl)
  have k5011 : H4994 x 0 = H x 0 := ((f4999 x 0 _ gx rfl).trans (f4975 x 0 _ gx rfl))
  have q5012 : H4994 x 0 = (tc : Int) := k5011.trans e0
  have k5013 : H4994 m 5 = H m 5 := ((f4999 m 5 _ gm rfl).trans (f4975 m 5 _ gm rfl))
  have q5014 : H4994 m 5 = (tm : Int) := k5013.trans em
  have k5015 : H4994 x 6 = H x 6 := ((f4999 x 6 _ gx rfl).trans (f4975 x 6 _ gx rfl))
  have q5016 : H4994 x 6 = (cu : Int) := k5015.trans ecu
  have k5017 : H4994 x 7 = H x 7 := ((f4999 x 7 _ gx rfl).trans (f4975 x 7 _ gx rfl))
  have q5018 : H4994 x 7 = (dr : Int) := k5017.trans edr
  have h5019 : CEN T H4994 ce8 e8 d8 := (CEN_fr w4974 gce8 f4999 rfl p4978)
  have h5020 : TP T H4994 tc B := (TP_fr w4974 gtc f4999 rfl (TP_fr hW gtc f4975 rfl htc))
  have h5021 : TM T H4994 tm B := (TM_fr w4974 gtm f4999 rfl (TM_fr hW gtm f4975 rfl htm))
  have h5022 : DD T H4994 cu  := (DD_fr w4974 gcu f4999 rfl (DD_fr hW gcu f4975 rfl hcu))
  have h5023 : DD T H4994 dr  := (DD_fr w4974 gdr f4999 rfl (DD_fr hW gdr f4975 rfl hdr))
  have h5024 : DE T H4994 cu  := (DE_fr w4974 gcu f4999 rfl (DE_fr hW gcu f4975 rfl hdec))
  have h5025 : DE T H4994 dr  := (DE_fr w4974 gdr f4999 rfl (DE_fr hW gdr f4975 rfl hded))
  have h5026 : SP T H4994 x C8 := (SP_fr w4974 gx f4999 rfl (SP_fr hW gx f4975 rfl hsp))
  have h5027 : CU T H4994 cu e8 d8 n8 := (CU_fr w4974 gcu f4999 rfl (CU_fr hW gcu f4975 rfl hcu8))
  have h5028 : CY T H4994 cu (d8 0 3) g8 (H cu 17) := (CY_fr w4974 gcu f4999 rfl (CY_fr hW gcu f4975 rfl h4963))
  have k5029 : H4994 x 3 = H x 3 := ((f4999 x 3 _ gx rfl).trans (f4975 x 3 _ gx rfl))
  have q5030 : H4994 x 3 = (ce8 : Int) := k5029.trans ece8
  have h5031 : HDR T H4994 ce8  := (HDR_fr w4974 gce8 f4999 rfl (HDR_fr hW gce8 f4975 rfl hhdr8))
  have h5032 : RY T H4994 m (d8 0 3) g8 (H m 32) := (RY_fr w4974 gm f4999 rfl (RY_fr hW gm f4975 rfl h4964))
  have h5033 : RB T H4994 m e8 d8 := (RB_fr w4974 gm f4999 rfl h4990)
  exact WL.loc hX (by simp) (next T H4994 ⟨⟨w4998, g0, gx, gm, go, by omega, by omega⟩, ⟨_, tc, tm, cu, dr, _, _, _, _, _, ce8, q5012, gtc, h5020, q5014, gtm, h5021, q5016, gcu, q5018, gdr, h5022, h5023, h5024, h5025, h5026, hC1, hC2, h5027, h5033, (h5028).1, (h5032).1, hE, hZ, (by omega), (by assumption), (by omega), (by first | assumption | exact SG_0), q5030, gce8, h5019, h5031, a5004, gm⟩, by omega, by omega⟩ (by omega) (by omega))
set_option maxHeartbeats 4000000 in
theorem wl_c33 {kt : Nat → Option mc_E} {CB SB : Nat} {X : mc_S → Prop} {T : wq_T} {H : wq_H} {Len x m o : Nat} {i : Int} (hX : wlX kt CB SB X) (hb : T.2.1 ≤ CB ∧ T.2.2.1 ≤ SB) (hI : wlJ Len x m o T H) (hL : Len ≤ 3072) (hi : 0 ≤ i ∧ i + 6 ≤ Len) (hb2 : T.2.1 + 20 ≤ CB ∧ T.2.2.1 + 500 ≤ SB)  (next : ∀ T' H', wlJ Len x m o T' H' → T'.2.1 ≤ T.2.1 + 20 → T'.2.2.1 ≤ T.2.2.1 + 500 → WL kt CB SB X 1653 (wlL i x m o) [] T' H') : WL kt CB SB X 1225 (wlL i x m o) [] T H := by
  obtain ⟨⟨hW, g0, gx, gm, go, hK, hr⟩, hXI, hY1, hY2⟩ := hI
  refine wl_of hX hb cL_1225 (rw_aload_n (pc' := 1226) (v := .ref x) rfl rfl rfl ?_)
  refine wl_of hX hb cL_1226 (rw_aload_n (pc' := 1227) (v := .ref 0) rfl rfl rfl ?_)
  refine wl_of hX hb cL_1227 (rw_iload (pc' := 1229) (z := i) rfl rfl ?_)
  refine wl_of hX hb cL_1229 (rw_iconst (pc' := 1230) rfl ?_)
  refine wl_of hX hb cL_1230 (rw_iadd (pc' := 1231) rfl ?_)
  refine wl_of hX hb cL_1231 (xa_I (so := 0) (pc' := 1232) (a := 0) hW g0 (wsh_s _) (by omega) (wty_s _ _) (by omega) (by omega) rfl (fun b5034 b5035 => ?_))
  obtain ⟨B, tc, tm, cu, dr, C8, e8, d8, n8, g8, ce8, e0, gtc, htc, em, gtm, htm, ecu, gcu, edr, gdr, hcu, hdr, hdec, hded, hsp, hC1, hC2, hcu8, hrb8, hcg8, hmn8, hE, hZ, hn8, hXA, hV8, hSG, ece8, gce8, hcen8, hhdr8, hknn8, -⟩ := hXI
  have hN3 := RB_n3 hrb8
  have hE13 : ∀ h : Nat, h < 24 → 0 ≤ e8 13 h ∧ e8 13 h ≤ 100 := fun k hk => by
    obtain ⟨s, h1, h2, h3⟩ := hcu8.1.2.2.1
    exact ⟨(h3 k hk).1, (h3 k hk).2.1⟩
  have hXW := hXA.1
  have hXN := hXA.2
  have hE0 : e8 0 3 = d8 0 3 ∧ e8 0 0 = d8 0 0 := by
    have h := hE 0 (by decide)
    exact ⟨congrFun h 3, congrFun h 0⟩
  have u5036 := CU_k hcu8
  have h5037 : CY T H cu (d8 0 3) g8 (H cu 17) := ⟨hcg8, rfl⟩
  have h5038 : RY T H m (d8 0 3) g8 (H m 32) := ⟨hmn8, rfl⟩
  obtain ⟨t9, ht9⟩ : ∃ t : Int, t = H x 9 := ⟨_, rfl⟩
  obtain ⟨y9, hy9⟩ : ∃ y : Int, y = H 0 ((i + 1).toNat) := ⟨_, rfl⟩
  obtain ⟨r5039, q5040, g5041⟩ := hW.ref gx (t' := 6) (n := 13) (j := 2) (p := 0) (q := 0) rfl (by decide) rfl
  refine wl_of hX hb cL_1232 (xc_V (pc' := 1235) (r := x) (as := [vI (H 0 ((i + 1).toNat))]) (st := []) (lm_11_159) rfl rfl (Nat.le_of_ble_eq_true rfl) hW gx sh_1 (by decide) rfl (by decide) (u_135 (e := e8) (d := d8) (n := n8) hW gx ⟨by omega, by omega⟩ ecu gcu q5040 g5041 ece8 gce8 (by assumption) (by assumption) (by omega) (by omega) (by omega) (by omega) hcu8 hcen8 hhdr8) (fun R5042 T5043 H5044 p5045 => ?_))
  obtain ⟨e5046, w5048, f5049, z5050, e5047, b5051, p5052⟩ := p5045
  subst e5046
  subst e5047
  show WL _ _ _ _ 1235 [(4, vI i), (3, .ref o), (2, .ref m), (1, .ref x), (0, .ref 0)] [vI z5050] _ H5044
  refine wl_of hX hb cL_1235 (rw_pop (pc' := 1236) rfl rfl ?_)
  refine wl_of hX hb cL_1236 (rw_aload_n (pc' := 1237) (v := .ref m) rfl rfl rfl ?_)
  refine wl_of hX hb cL_1237 (rw_aload_n (pc' := 1238) (v := .ref 0) rfl rfl rfl ?_)
  refine wl_of hX hb cL_1238 (rw_iload (pc' := 1240) (z := i) rfl rfl ?_)
  refine wl_of hX hb cL_1240 (rw_iconst (pc' := 1241) rfl ?_)
  refine wl_of hX hb cL_1241 (rw_iadd (pc' := 1242) rfl ?_)
  have k5056 : H5044 0 ((i + 1).toNat) = H 0 ((i + 1).toNat) := (f5049 0 ((i + 1).toNat) _ g0 (wmem_s rfl))
  refine wl_of hX hb cL_1242 (xa_I (so := 0) (pc' := 1243) (a := 0) w5048 g0 (wsh_s _) (by omega) (wty_s _ _) (by omega) (by omega) rfl (fun b5054 b5055 => ?_))
  have k5057 : wKI H5044 m = wKI H m := (wKI_fr hW gm f5049 rfl)
  have k5058 : H5044 x 9 = H x 9 := (f5049 x 9 _ gx rfl)
  have k5059 : H5044 m 6 = H m 6 := (f5049 m 6 _ gm rfl)
  have k5060 : H5044 x 11 = H x 11 := (f5049 x 11 _ gx rfl)
  have k5061 : H5044 m 13 = H m 13 := (f5049 m 13 _ gm rfl)
  have k5062 : H5044 x 8 = H x 8 := (f5049 x 8 _ gx rfl)
  have k5063 : H5044 m 3 = H m 3 := (f5049 m 3 _ gm rfl)
  rw [show H5044 0 ((i + 1).toNat) = H 0 ((i + 1).toNat) by omega]
  have h5064 : RB T H5044 m e8 d8 := (RB_fr hW gm f5049 rfl hrb8)
  have h5065 : KNN T H5044 m e8 d8 := (KNN_fr hW gm f5049 rfl hknn8)
  refine wl_of hX hb cL_1243 (xc_V (pc' := 1246) (r := m) (as := [vI (H 0 ((i + 1).toNat))]) (st := []) (lm_11_162) rfl rfl (Nat.le_of_ble_eq_true rfl) w5048 gm sh_42 (by decide) rfl (by decide) (u_275 (e := e8) (d := d8) w5048 gm ⟨by omega, by omega⟩ (by omega) (by assumption) (by assumption) (by assumption) (by assumption) h5064 h5065) (fun R5066 T5067 H5068 p5069 => ?_))
  obtain ⟨e5070, w5072, f5073, z5074, e5071, b5075, p5076⟩ := p5069
  subst e5070
  subst e5071
  obtain ⟨a5077, a5078⟩ := p5076
  show WL _ _ _ _ 1246 [(4, vI i), (3, .ref o), (2, .ref m), (1, .ref x), (0, .ref 0)] [vI z5074] _ H5068
  refine wl_of hX hb cL_1246 (rw_pop (pc' := 1247) rfl rfl ?_)
  refine wl_of hX hb cL_1247 (rw_goto (p1 := 1653) (by decide) ?_)
  have k5079 : H5068 x 9 = H5044 x 9 := (f5073 x 9 _ gx rfl)
  have k5080 : H5068 m 6 = H5044 m 6 := (f5073 m 6 _ gm rfl)
  have k5081 : H5068 x 11 = H5044 x 11 := (f5073 x 11 _ gx rfl)
  have k5082 : H5068 m 13 = H5044 m 13 := (f5073 m 13 _ gm rfl)
  have k5083 : H5068 x 8 = H5044 x 8 := (f5073 x 8 _ gx rfl)
  have k5084 : H5068 m 3 = H5044 m 3 := (f5073 m 3 _ gm rfl)
  have k5085 : H5068 x 0 = H x 0 := ((f5073 x 0 _ gx rfl).trans (f5049 x 0 _ gx rfl))
  have q5086 : H5068 x 0 = (tc : Int) := k5085.trans e0
  have k5087 : H5068 m 5 = H m 5 := ((f5073 m 5 _ gm rfl).trans (f5049 m 5 _ gm rfl))
  have q5088 : H5068 m 5 = (tm : Int) := k5087.trans em
  have k5089 : H5068 x 6 = H x 6 := ((f5073 x 6 _ gx rfl).trans (f5049 x 6 _ gx rfl))
  have q5090 : H5068 x 6 = (cu : Int) := k5089.trans ecu
  have k5091 : H5068 x 7 = H x 7 := ((f5073 x 7 _ gx rfl).trans (f5049 x 7 _ gx rfl))
  have q5092 : H5068 x 7 = (dr : Int) := k5091.trans edr
  have h5093 : CEN T H5068 ce8 e8 d8 := (CEN_fr w5048 gce8 f5073 rfl p5052)
  have h5094 : TP T H5068 tc B := (TP_fr w5048 gtc f5073 rfl (TP_fr hW gtc f5049 rfl htc))
  have h5095 : TM T H5068 tm B := (TM_fr w5048 gtm f5073 rfl (TM_fr hW gtm f5049 rfl htm))
  have h5096 : DD T H5068 cu  := (DD_fr w5048 gcu f5073 rfl (DD_fr hW gcu f5049 rfl hcu))
  have h5097 : DD T H5068 dr  := (DD_fr w5048 gdr f5073 rfl (DD_fr hW gdr f5049 rfl hdr))
  have h5098 : DE T H5068 cu  := (DE_fr w5048 gcu f5073 rfl (DE_fr hW gcu f5049 rfl hdec))
  have h5099 : DE T H5068 dr  := (DE_fr w5048 gdr f5073 rfl (DE_fr hW gdr f5049 rfl hded))
  have h5100 : SP T H5068 x C8 := (SP_fr w5048 gx f5073 rfl (SP_fr hW gx f5049 rfl hsp))
  have h5101 : CU T H5068 cu e8 d8 n8 := (CU_fr w5048 gcu f5073 rfl (CU_fr hW gcu f5049 rfl hcu8))
  have h5102 : CY T H5068 cu (d8 0 3) g8 (H cu 17) := (CY_fr w5048 gcu f5073 rfl (CY_fr hW gcu f5049 rfl h5037))
  have k5103 : H5068 x 3 = H x 3 := ((f5073 x 3 _ gx rfl).trans (f5049 x 3 _ gx rfl))
  have q5104 : H5068 x 3 = (ce8 : Int) := k5103.trans ece8
  have h5105 : HDR T H5068 ce8  := (HDR_fr w5048 gce8 f5073 rfl (HDR_fr hW gce8 f5049 rfl hhdr8))
  have h5106 : RY T H5068 m (d8 0 3) g8 (H m 32) := (RY_fr w5048 gm f5073 rfl (RY_fr hW gm f5049 rfl h5038))
  have h5107 : RB T H5068 m e8 d8 := (RB_fr w5048 gm f5073 rfl h5064)
  exact WL.loc hX (by simp) (next T H5068 ⟨⟨w5072, g0, gx, gm, go, by omega, by omega⟩, ⟨_, tc, tm, cu, dr, _, _, _, _, _, ce8, q5086, gtc, h5094, q5088, gtm, h5095, q5090, gcu, q5092, gdr, h5096, h5097, h5098, h5099, h5100, hC1, hC2, h5101, h5107, (h5102).1, (h5106).1, hE, hZ, (by omega), (by assumption), (by omega), (by first | assumption | exact SG_0), q5104, gce8, h5093, h5105, a5078, gm⟩, by omega, by omega⟩ (by omega) (by omega))
set_option maxHeartbeats 4000000 in
theorem wl_c34 {kt : Nat → Option mc_E} {CB SB : Nat} {X : mc_S → Prop} {T : wq_T} {H : wq_H} {Len x m o : Nat} {i : Int} (hX : wlX kt CB SB X) (hb : T.2.1 ≤ CB ∧ T.2.2.1 ≤ SB) (hI : wlJ Len x m o T H) (hL : Len ≤ 3072) (hi : 0 ≤ i ∧ i + 6 ≤ Len) (hb2 : T.2.1 + 20 ≤ CB ∧ T.2.2.1 + 500 ≤ SB)  (next : ∀ T' H', wlJ Len x m o T' H' → T'.2.1 ≤ T.2.1 + 20 → T'.2.2.1 ≤ T.2.2.1 + 500 → WL kt CB SB X 1653 (wlL i x m o) [] T' H') : WL kt CB SB X 1250 (wlL i x m o) [] T H := by
  obtain ⟨⟨hW, g0, gx, gm, go, hK, hr⟩, hXI, hY1, hY2⟩ := hI
  refine wl_of hX hb cL_1250 (rw_aload_n (pc' := 1251) (v := .ref x) rfl rfl rfl ?_)
  obtain ⟨B, tc, tm, cu, dr, C8, e8, d8, n8, g8, ce8, e0, gtc, htc, em, gtm, htm, ecu, gcu, edr, gdr, hcu, hdr, hdec, hded, hsp, hC1, hC2, hcu8, hrb8, hcg8, hmn8, hE, hZ, hn8, hXA, hV8, hSG, ece8, gce8, hcen8, hhdr8, hknn8, -⟩ := hXI
  have hN3 := RB_n3 hrb8
  have hE13 : ∀ h : Nat, h < 24 → 0 ≤ e8 13 h ∧ e8 13 h ≤ 100 := fun k hk => by
    obtain ⟨s, h1, h2, h3⟩ := hcu8.1.2.2.1
    exact ⟨(h3 k hk).1, (h3 k hk).2.1⟩
  have hXW := hXA.1
  have hXN := hXA.2
  have hE0 : e8 0 3 = d8 0 3 ∧ e8 0 0 = d8 0 0 := by
    have h := hE 0 (by decide)
    exact ⟨congrFun h 3, congrFun h 0⟩
  have u5108 := CU_k hcu8
  have h5109 : CY T H cu (d8 0 3) g8 (H cu 17) := ⟨hcg8, rfl⟩
  have h5110 : RY T H m (d8 0 3) g8 (H m 32) := ⟨hmn8, rfl⟩
  obtain ⟨t9, ht9⟩ : ∃ t : Int, t = H x 9 := ⟨_, rfl⟩
  obtain ⟨r5111, q5112, g5113⟩ := hW.ref gx (t' := 6) (n := 13) (j := 2) (p := 0) (q := 0) rfl (by decide) rfl
  refine wl_of hX hb cL_1251 (xc_V (pc' := 1254) (r := x) (as := []) (st := []) (lm_11_163) rfl rfl (Nat.le_of_ble_eq_true rfl) hW gx sh_1 (by decide) rfl (by decide) (u_137 (e := e8) (d := d8) (n := n8) hW gx ecu gcu q5112 g5113 ece8 gce8 (by assumption) (by assumption) (by omega) (by omega) (by omega) (by omega) hcu8 hcen8 hhdr8) (fun R5114 T5115 H5116 p5117 => ?_))
  obtain ⟨e5118, w5120, f5121, z5122, e5119, b5123, p5124⟩ := p5117
  subst e5118
  subst e5119
  show WL _ _ _ _ 1254 [(4, vI i), (3, .ref o), (2, .ref m), (1, .ref x), (0, .ref 0)] [vI z5122] _ H5116
  refine wl_of hX hb cL_1254 (rw_pop (pc' := 1255) rfl rfl ?_)
  refine wl_of hX hb cL_1255 (rw_aload_n (pc' := 1256) (v := .ref m) rfl rfl rfl ?_)
  have k5126 : wKI H5116 m = wKI H m := (wKI_fr hW gm f5121 rfl)
  have k5127 : H5116 x 9 = H x 9 := (f5121 x 9 _ gx rfl)
  have k5128 : H5116 m 6 = H m 6 := (f5121 m 6 _ gm rfl)
  have k5129 : H5116 x 11 = H x 11 := (f5121 x 11 _ gx rfl)
  have k5130 : H5116 m 13 = H m 13 := (f5121 m 13 _ gm rfl)
  have k5131 : H5116 x 8 = H x 8 := (f5121 x 8 _ gx rfl)
  have k5132 : H5116 m 3 = H m 3 := (f5121 m 3 _ gm rfl)
  have h5133 : RB T H5116 m e8 d8 := (RB_fr hW gm f5121 rfl hrb8)
  have h5134 : KNN T H5116 m e8 d8 := (KNN_fr hW gm f5121 rfl hknn8)
  refine wl_of hX hb cL_1256 (xc_V (pc' := 1259) (r := m) (as := []) (st := []) (lm_11_166) rfl rfl (Nat.le_of_ble_eq_true rfl) w5120 gm sh_42 (by decide) rfl (by decide) (u_276 (e := e8) (d := d8) w5120 gm (by omega) (by assumption) (by assumption) (by assumption) (by assumption) h5133 h5134) (fun R5135 T5136 H5137 p5138 => ?_))
  obtain ⟨e5139, w5141, f5142, z5143, e5140, b5144, p5145⟩ := p5138
  subst e5139
  subst e5140
  obtain ⟨a5146, a5147⟩ := p5145
  show WL _ _ _ _ 1259 [(4, vI i), (3, .ref o), (2, .ref m), (1, .ref x), (0, .ref 0)] [vI z5143] _ H5137
  refine wl_of hX hb cL_1259 (rw_pop (pc' := 1260) rfl rfl ?_)
  refine wl_of hX hb cL_1260 (rw_goto (p1 := 1653) (by decide) ?_)
  have k5148 : H5137 x 9 = H5116 x 9 := (f5142 x 9 _ gx rfl)
  have k5149 : H5137 m 6 = H5116 m 6 := (f5142 m 6 _ gm rfl)
  have k5150 : H5137 x 11 = H5116 x 11 := (f5142 x 11 _ gx rfl)
  have k5151 : H5137 m 13 = H5116 m 13 := (f5142 m 13 _ gm rfl)
  have k5152 : H5137 x 8 = H5116 x 8 := (f5142 x 8 _ gx rfl)
  have k5153 : H5137 m 3 = H5116 m 3 := (f5142 m 3 _ gm rfl)
  have k5154 : H5137 x 0 = H x 0 := ((f5142 x 0 _ gx rfl).trans (f5121 x 0 _ gx rfl))
  have q5155 : H5137 x 0 = (tc : Int) := k5154.trans e0
  have k5156 : H5137 m 5 = H m 5 := ((f5142 m 5 _ gm rfl).trans (f5121 m 5 _ gm rfl))
  have q5157 : H5137 m 5 = (tm : Int) := k5156.trans em
  have k5158 : H5137 x 6 = H x 6 := ((f5142 x 6 _ gx rfl).trans (f5121 x 6 _ gx rfl))
  have q5159 : H5137 x 6 = (cu : Int) := k5158.trans ecu
  have k5160 : H5137 x 7 = H x 7 := ((f5142 x 7 _ gx rfl).trans (f5121 x 7 _ gx rfl))
  have q5161 : H5137 x 7 = (dr : Int) := k5160.trans edr
  have h5162 : CEN T H5137 ce8 e8 d8 := (CEN_fr w5120 gce8 f5142 rfl p5124)
  have h5163 : TP T H5137 tc B := (TP_fr w5120 gtc f5142 rfl (TP_fr hW gtc f5121 rfl htc))
  have h5164 : TM T H5137 tm B := (TM_fr w5120 gtm f5142 rfl (TM_fr hW gtm f5121 rfl htm))
  have h5165 : DD T H5137 cu  := (DD_fr w5120 gcu f5142 rfl (DD_fr hW gcu f5121 rfl hcu))
  have h5166 : DD T H5137 dr  := (DD_fr w5120 gdr f5142 rfl (DD_fr hW gdr f5121 rfl hdr))
  have h5167 : DE T H5137 cu  := (DE_fr w5120 gcu f5142 rfl (DE_fr hW gcu f5121 rfl hdec))
  have h5168 : DE T H5137 dr  := (DE_fr w5120 gdr f5142 rfl (DE_fr hW gdr f5121 rfl hded))
  have h5169 : SP T H5137 x C8 := (SP_fr w5120 gx f5142 rfl (SP_fr hW gx f5121 rfl hsp))
  have h5170 : CU T H5137 cu e8 d8 n8 := (CU_fr w5120 gcu f5142 rfl (CU_fr hW gcu f5121 rfl hcu8))
  have h5171 : CY T H5137 cu (d8 0 3) g8 (H cu 17) := (CY_fr w5120 gcu f5142 rfl (CY_fr hW gcu f5121 rfl h5109))
  have k5172 : H5137 x 3 = H x 3 := ((f5142 x 3 _ gx rfl).trans (f5121 x 3 _ gx rfl))
  have q5173 : H5137 x 3 = (ce8 : Int) := k5172.trans ece8
  have h5174 : HDR T H5137 ce8  := (HDR_fr w5120 gce8 f5142 rfl (HDR_fr hW gce8 f5121 rfl hhdr8))
  have h5175 : RY T H5137 m (d8 0 3) g8 (H m 32) := (RY_fr w5120 gm f5142 rfl (RY_fr hW gm f5121 rfl h5110))
  have h5176 : RB T H5137 m e8 d8 := (RB_fr w5120 gm f5142 rfl h5133)
  exact WL.loc hX (by simp) (next T H5137 ⟨⟨w5141, g0, gx, gm, go, by omega, by omega⟩, ⟨_, tc, tm, cu, dr, _, _, _, _, _, ce8, q5155, gtc, h5163, q5157, gtm, h5164, q5159, gcu, q5161, gdr, h5165, h5166, h5167, h5168, h5169, hC1, hC2, h5170, h5176, (h5171).1, (h5175).1, hE, hZ, (by omega), (by assumption), (by omega), (by first | assumption | exact SG_0), q5173, gce8, h5162, h5174, a5147, gm⟩, by omega, by omega⟩ (by omega) (by omega))
set_option maxHeartbeats 4000000 in
theorem wl_c35 {kt : Nat → Option mc_E} {CB SB : Nat} {X : mc_S → Prop} {T : wq_T} {H : wq_H} {Len x m o : Nat} {i : Int} (hX : wlX kt CB SB X) (hb : T.2.1 ≤ CB ∧ T.2.2.1 ≤ SB) (hI : wlJ Len x m o T H) (hL : Len ≤ 3072) (hi : 0 ≤ i ∧ i + 6 ≤ Len) (hb2 : T.2.1 + 20 ≤ CB ∧ T.2.2.1 + 500 ≤ SB)  (next : ∀ T' H', wlJ Len x m o T' H' → T'.2.1 ≤ T.2.1 + 20 → T'.2.2.1 ≤ T.2.2.1 + 500 → WL kt CB SB X 1653 (wlL i x m o) [] T' H') : WL kt CB SB X 1263 (wlL i x m o) [] T H := by
  obtain ⟨⟨hW, g0, gx, gm, go, hK, hr⟩, hXI, hY1, hY2⟩ := hI
  refine wl_of hX hb cL_1263 (rw_aload_n (pc' := 1264) (v := .ref x) rfl rfl rfl ?_)
  refine wl_of hX hb cL_1264 (rw_aload_n (pc' := 1265) (v := .ref 0) rfl rfl rfl ?_)
  refine wl_of hX hb cL_1265 (rw_iload (pc' := 1267) (z := i) rfl rfl ?_)
  refine wl_of hX hb cL_1267 (rw_iconst (pc' := 1268) rfl ?_)
  refine wl_of hX hb cL_1268 (rw_iadd (pc' := 1269) rfl ?_)
  refine wl_of hX hb cL_1269 (xa_I (so := 0) (pc' := 1270) (a := 0) hW g0 (wsh_s _) (by omega) (wty_s _ _) (by omega) (by omega) rfl (fun b5177 b5178 => ?_))
  refine wl_of hX hb cL_1270 (rw_aload_n (pc' := 1271) (v := .ref 0) rfl rfl rfl ?_)
  refine wl_of hX hb cL_1271 (rw_iload (pc' := 1273) (z := i) rfl rfl ?_)
  refine wl_of hX hb cL_1273 (rw_iconst (pc' := 1274) rfl ?_)
  refine wl_of hX hb cL_1274 (rw_iadd (pc' := 1275) rfl ?_)
  refine wl_of hX hb cL_1275 (xa_I (so := 0) (pc' := 1276) (a := 0) hW g0 (wsh_s _) (by omega) (wty_s _ _) (by omega) (by omega) rfl (fun b5179 b5180 => ?_))
  refine wl_of hX hb cL_1276 (rw_if_eq (p1 := 1283) (p2 := 1279) (by decide) rfl ⟨by omega, by omega⟩ (fun c5181 => ?_) (fun c5181 => ?_))
  · refine wl_of hX hb cL_1283 (rw_iconst (pc' := 1284) rfl ?_)
    obtain ⟨B, tc, tm, cu, dr, C8, e8, d8, n8, g8, ce8, e0, gtc, htc, em, gtm, htm, ecu, gcu, edr, gdr, hcu, hdr, hdec, hded, hsp, hC1, hC2, hcu8, hrb8, hcg8, hmn8, hE, hZ, hn8, hXA, hV8, hSG, ece8, gce8, hcen8, hhdr8, hknn8, -⟩ := hXI
    have hN3 := RB_n3 hrb8
    have hE13 : ∀ h : Nat, h < 24 → 0 ≤ e8 13 h ∧ e8 13 h ≤ 100 := fun k hk => by
      obtain ⟨s, h1, h2, h3⟩ := hcu8.1.2.2.1
      exact ⟨(h3 k hk).1, (h3 k hk).2.1⟩
    have hXW := hXA.1
    have hXN := hXA.2
    have hE0 : e8 0 3 = d8 0 3 ∧ e8 0 0 = d8 0 0 := by
      have h := hE 0 (by decide)
      exact ⟨congrFun h 3, congrFun h 0⟩
    have u5182 := CU_k hcu8
    have h5183 : CY T H cu (d8 0 3) g8 (H cu 17) := ⟨hcg8, rfl⟩
    have h5184 : RY T H m (d8 0 3) g8 (H m 32) := ⟨hmn8, rfl⟩
    obtain ⟨t9, ht9⟩ : ∃ t : Int, t = H x 9 := ⟨_, rfl⟩
    obtain ⟨y9, hy9⟩ : ∃ y : Int, y = 0 := ⟨_, rfl⟩
    obtain ⟨r5185, q5186, g5187⟩ := hW.ref gx (t' := 6) (n := 13) (j := 2) (p := 0) (q := 0) rfl (by decide) rfl
    refine wl_of hX hb cL_1284 (xc_V (pc' := 1287) (r := x) (as := [vI (H 0 ((i + 1).toNat)), vI 0]) (st := []) (lm_11_167) rfl rfl (Nat.le_of_ble_eq_true rfl) hW gx sh_1 (by decide) rfl (by decide) (u_146 (e := e8) (d := d8) (n := n8) hW gx ⟨by omega, by omega⟩ ⟨by decide, by decide⟩ ecu gcu q5186 g5187 ece8 gce8 (by assumption) (by assumption) (by omega) (by omega) (by omega) (by omega) hcu8 hcen8 hhdr8) (fun R5188 T5189 H5190 p5191 => ?_))
    obtain ⟨e5192, w5194, f5195, z5196, e5193, b5197, p5198⟩ := p5191
    subst e5192
    subst e5193
    show WL _ _ _ _ 1287 [(4, vI i), (3, .ref o), (2, .ref m), (1, .ref x), (0, .ref 0)] [vI z5196] _ H5190
    refine wl_of hX hb cL_1287 (rw_pop (pc' := 1288) rfl rfl ?_)
    refine wl_of hX hb cL_1288 (rw_aload_n (pc' := 1289) (v := .ref m) rfl rfl rfl ?_)
    refine wl_of hX hb cL_1289 (rw_aload_n (pc' := 1290) (v := .ref 0) rfl rfl rfl ?_)
    refine wl_of hX hb cL_1290 (rw_iload (pc' := 1292) (z := i) rfl rfl ?_)
    refine wl_of hX hb cL_1292 (rw_iconst (pc' := 1293) rfl ?_)
    refine wl_of hX hb cL_1293 (rw_iadd (pc' := 1294) rfl ?_)
    have k5202 : H5190 0 ((i + 1).toNat) = H 0 ((i + 1).toNat) := (f5195 0 ((i + 1).toNat) _ g0 (wmem_s rfl))
    refine wl_of hX hb cL_1294 (xa_I (so := 0) (pc' := 1295) (a := 0) w5194 g0 (wsh_s _) (by omega) (wty_s _ _) (by omega) (by omega) rfl (fun b5200 b5201 => ?_))
    refine wl_of hX hb cL_1295 (rw_aload_n (pc' := 1296) (v := .ref 0) rfl rfl rfl ?_)
    refine wl_of hX hb cL_1296 (rw_iload (pc' := 1298) (z := i) rfl rfl ?_)
    refine wl_of hX hb cL_1298 (rw_iconst (pc' := 1299) rfl ?_)
    refine wl_of hX hb cL_1299 (rw_iadd (pc' := 1300) rfl ?_)
    have k5205 : H5190 0 ((i + 2).toNat) = H 0 ((i + 2).toNat) := (f5195 0 ((i + 2).toNat) _ g0 (wmem_s rfl))
    refine wl_of hX hb cL_1300 (xa_I (so := 0) (pc' := 1301) (a := 0) w5194 g0 (wsh_s _) (by omega) (wty_s _ _) (by omega) (by omega) rfl (fun b5203 b5204 => ?_))
    refine wl_of hX hb cL_1301 (rw_if_eq (p1 := 1308) (p2 := 1304) (by decide) rfl ⟨by omega, by omega⟩ (fun c5206 => ?_) (fun c5206 => ?_))
    · refine wl_of hX hb cL_1308 (rw_iconst (pc' := 1309) rfl ?_)
      have k5207 : wKI H5190 m = wKI H m := (wKI_fr hW gm f5195 rfl)
      have k5208 : H5190 x 9 = H x 9 := (f5195 x 9 _ gx rfl)
      have k5209 : H5190 m 6 = H m 6 := (f5195 m 6 _ gm rfl)
      have k5210 : H5190 x 11 = H x 11 := (f5195 x 11 _ gx rfl)
      have k5211 : H5190 m 13 = H m 13 := (f5195 m 13 _ gm rfl)
      have k5212 : H5190 x 8 = H x 8 := (f5195 x 8 _ gx rfl)
      have k5213 : H5190 m 3 = H m 3 := (f5195 m 3 _ gm rfl)
      rw [show H5190 0 ((i + 1).toNat) = H 0 ((i + 1).toNat) by omega]
      have h5214 : RB T H5190 m e8 d8 := (RB_fr hW gm f5195 rfl hrb8)
      have h5215 : KNN T H5190 m e8 d8 := (KNN_fr hW gm f5195 rfl hknn8)
      refine wl_of hX hb cL_1309 (xc_V (pc' := 1312) (r := m) (as := [vI (H 0 ((i + 1).toNat)), vI 0]) (st := []) (lm_11_170) rfl rfl (Nat.le_of_ble_eq_true rfl) w5194 gm sh_42 (by decide) rfl (by decide) (u_279 (e := e8) (d := d8) w5194 gm ⟨by omega, by omega⟩ ⟨by decide, by decide⟩ (by omega) (by assumption) (by assumption) (by assumption) (by assumption) h5214 h5215) (fun R5216 T5217 H5218 p5219 => ?_))
      obtain ⟨e5220, w5222, f5223, z5224, e5221, b5225, p5226⟩ := p5219
      subst e5220
      subst e5221
      obtain ⟨a5227, a5228⟩ := p5226
      show WL _ _ _ _ 1312 [(4, vI i), (3, .ref o), (2, .ref m), (1, .ref x), (0, .ref 0)] [vI z5224] _ H5218
      refine wl_of hX hb cL_1312 (rw_pop (pc' := 1313) rfl rfl ?_)
      refine wl_of hX hb cL_1313 (rw_goto (p1 := 1653) (by decide) ?_)
      have k5229 : H5218 x 9 = H5190 x 9 := (f5223 x 9 _ gx rfl)
      have k5230 : H5218 m 6 = H5190 m 6 := (f5223 m 6 _ gm rfl)
      have k5231 : H5218 x 11 = H5190 x 11 := (f5223 x 11 _ gx rfl)
      have k5232 : H5218 m 13 = H5190 m 13 := (f5223 m 13 _ gm rfl)
      have k5233 : H5218 x 8 = H5190 x 8 := (f5223 x 8 _ gx rfl)
      have k5234 : H5218 m 3 = H5190 m 3 := (f5223 m 3 _ gm rfl)
      have k5235 : H5218 x 0 = H x 0 := ((f5223 x 0 _ gx rfl).trans (f5195 x 0 _ gx rfl))
      have q5236 : H5218 x 0 = (tc : Int) := k5235.trans e0
      have k5237 : H5218 m 5 = H m 5 := ((f5223 m 5 _ gm rfl).trans (f5195 m 5 _ gm rfl))
      have q5238 : H5218 m 5 = (tm : Int) := k5237.trans em
      have k5239 : H5218 x 6 = H x 6 := ((f5223 x 6 _ gx rfl).trans (f5195 x 6 _ gx rfl))
      have q5240 : H5218 x 6 = (cu : Int) := k5239.trans ecu
      have k5241 : H5218 x 7 = H x 7 := ((f5223 x 7 _ gx rfl).trans (f5195 x 7 _ gx rfl))
      have q5242 : H5218 x 7 = (dr : Int) := k5241.trans edr
      have h5243 : CEN T H5218 ce8 e8 d8 := (CEN_fr w5194 gce8 f5223 rfl p5198)
      have h5244 : TP T H5218 tc B := (TP_fr w5194 gtc f5223 rfl (TP_fr hW gtc f5195 rfl htc))
      have h5245 : TM T H5218 tm B := (TM_fr w5194 gtm f5223 rfl (TM_fr hW gtm f5195 rfl htm))
      have h5246 : DD T H5218 cu  := (DD_fr w5194 gcu f5223 rfl (DD_fr hW gcu f5195 rfl hcu))
      have h5247 : DD T H5218 dr  := (DD_fr w5194 gdr f5223 rfl (DD_fr hW gdr f5195 rfl hdr))
      have h5248 : DE T H5218 cu  := (DE_fr w5194 gcu f5223 rfl (DE_fr hW gcu f5195 rfl hdec))
      have h5249 : DE T H5218 dr  := (DE_fr w5194 gdr f5223 rfl (DE_fr hW gdr f5195 rfl hded))
      have h5250 : SP T H5218 x C8 := (SP_fr w5194 gx f5223 rfl (SP_fr hW gx f5195 rfl hsp))
      have h5251 : CU T H5218 cu e8 d8 n8 := (CU_fr w5194 gcu f5223 rfl (CU_fr hW gcu f5195 rfl hcu8))
      have h5252 : CY T H5218 cu (d8 0 3) g8 (H cu 17) := (CY_fr w5194 gcu f5223 rfl (CY_fr hW gcu f5195 rfl h5183))
      have k5253 : H5218 x 3 = H x 3 := ((f5223 x 3 _ gx rfl).trans (f5195 x 3 _ gx rfl))
      have q5254 : H5218 x 3 = (ce8 : Int) := k5253.trans ece8
      have h5255 : HDR T H5218 ce8  := (HDR_fr w5194 gce8 f5223 rfl (HDR_fr hW gce8 f5195 rfl hhdr8))
      have h5256 : RY T H5218 m (d8 0 3) g8 (H m 32) := (RY_fr w5194 gm f5223 rfl (RY_fr hW gm f5195 rfl h5184))
      have h5257 : RB T H5218 m e8 d8 := (RB_fr w5194 gm f5223 rfl h5214)
      exact WL.loc hX (by simp) (next T H5218 ⟨⟨w5222, g0, gx, gm, go, by omega, by omega⟩, ⟨_, tc, tm, cu, dr, _, _, _, _, _, ce8, q5236, gtc, h5244, q5238, gtm, h5245, q5240, gcu, q5242, gdr, h5246, h5247, h5248, h5249, h5250, hC1, hC2, h5251, h5257, (h5252).1, (h5256).1, hE, hZ, (by omega), (by assumption), (by omega), (by first | assumption | exact SG_0), q5254, gce8, h5243, h5255, a5228, gm⟩, by omega, by omega⟩ (by omega) (by omega))
    · exfalso
      omega
  · refine wl_of hX hb cL_1279 (rw_iconst (pc' := 1280) rfl ?_)
    refine wl_of hX hb cL_1280 (rw_goto (p1 := 1284) (by decide) ?_)
    obtain ⟨B, tc, tm, cu, dr, C8, e8, d8, n8, g8, ce8, e0, gtc, htc, em, gtm, htm, ecu, gcu, edr, gdr, hcu, hdr, hdec, hded, hsp, hC1, hC2, hcu8, hrb8, hcg8, hmn8, hE, hZ, hn8, hXA, hV8, hSG, ece8, gce8, hcen8, hhdr8, hknn8, -⟩ := hXI
    have hN3 := RB_n3 hrb8
    have hE13 : ∀ h : Nat, h < 24 → 0 ≤ e8 13 h ∧ e8 13 h ≤ 100 := fun k hk => by
      obtain ⟨s, h1, h2, h3⟩ := hcu8.1.2.2.1
      exact ⟨(h3 k hk).1, (h3 k hk).2.1⟩
    have hXW := hXA.1
    have hXN := hXA.2
    have hE0 : e8 0 3 = d8 0 3 ∧ e8 0 0 = d8 0 0 := by
      have h := hE 0 (by decide)
      exact ⟨congrFun h 3, congrFun h 0⟩
    have u5258 := CU_k hcu8
    have h5259 : CY T H cu (d8 0 3) g8 (H cu 17) := ⟨hcg8, rfl⟩
    have h5260 : RY T H m (d8 0 3) g8 (H m 32) := ⟨hmn8, rfl⟩
    obtain ⟨t9, ht9⟩ : ∃ t : Int, t = H x 9 := ⟨_, rfl⟩
    obtain ⟨y9, hy9⟩ : ∃ y : Int, y = 1 := ⟨_, rfl⟩
    obtain ⟨r5261, q5262, g5263⟩ := hW.ref gx (t' := 6) (n := 13) (j := 2) (p := 0) (q := 0) rfl (by decide) rfl
    refine wl_of hX hb cL_1284 (xc_V (pc' := 1287) (r := x) (as := [vI (H 0 ((i + 1).toNat)), vI 1]) (st := []) (lm_11_167) rfl rfl (Nat.le_of_ble_eq_true rfl) hW gx sh_1 (by decide) rfl (by decide) (u_146 (e := e8) (d := d8) (n := n8) hW gx ⟨by omega, by omega⟩ ⟨by decide, by decide⟩ ecu gcu q5262 g5263 ece8 gce8 (by assumption) (by assumption) (by omega) (by omega) (by omega) (by omega) hcu8 hcen8 hhdr8) (fun R5264 T5265 H5266 p5267 => ?_))
    obtain ⟨e5268, w5270, f5271, z5272, e5269, b5273, p5274⟩ := p5267
    subst e5268
    subst e5269
    show WL _ _ _ _ 1287 [(4, vI i), (3, .ref o), (2, .ref m), (1, .ref x), (0, .ref 0)] [vI z5272] _ H5266
    refine wl_of hX hb cL_1287 (rw_pop (pc' := 1288) rfl rfl ?_)
    refine wl_of hX hb cL_1288 (rw_aload_n (pc' := 1289) (v := .ref m) rfl rfl rfl ?_)
    refine wl_of hX hb cL_1289 (rw_aload_n (pc' := 1290) (v := .ref 0) rfl rfl rfl ?_)
    refine wl_of hX hb cL_1290 (rw_iload (pc' := 1292) (z := i) rfl rfl ?_)
    refine wl_of hX hb cL_1292 (rw_iconst (pc' := 1293) rfl ?_)
    refine wl_of hX hb cL_1293 (rw_iadd (pc' := 1294) rfl ?_)
    have k5278 : H5266 0 ((i + 1).toNat) = H 0 ((i + 1).toNat) := (f5271 0 ((i + 1).toNat) _ g0 (wmem_s rfl))
    refine wl_of hX hb cL_1294 (xa_I (so := 0) (pc' := 1295) (a := 0) w5270 g0 (wsh_s _) (by omega) (wty_s _ _) (by omega) (by omega) rfl (fun b5276 b5277 => ?_))
    refine wl_of hX hb cL_1295 (rw_aload_n (pc' := 1296) (v := .ref 0) rfl rfl rfl ?_)
    refine wl_of hX hb cL_1296 (rw_iload (pc' := 1298) (z := i) rfl rfl ?_)
    refine wl_of hX hb cL_1298 (rw_iconst (pc' := 1299) rfl ?_)
    refine wl_of hX hb cL_1299 (rw_iadd (pc' := 1300) rfl ?_)
    have k5281 : H5266 0 ((i + 2).toNat) = H 0 ((i + 2).toNat) := (f5271 0 ((i + 2).toNat) _ g0 (wmem_s rfl))
    refine wl_of hX hb cL_1300 (xa_I (so := 0) (pc' := 1301) (a := 0) w5270 g0 (wsh_s _) (by omega) (wty_s _ _) (by omega) (by omega) rfl (fun b5279 b5280 => ?_))
    refine wl_of hX hb cL_1301 (rw_if_eq (p1 := 1308) (p2 := 1304) (by decide) rfl ⟨by omega, by omega⟩ (fun c5282 => ?_) (fun c5282 => ?_))
    · refine wl_of hX hb cL_1308 (rw_iconst (pc' := 1309) rfl ?_)
      have k5283 : wKI H5266 m = wKI H m := (wKI_fr hW gm f5271 rfl)
      have k5284 : H5266 x 9 = H x 9 := (f5271 x 9 _ gx rfl)
      have k5285 : H5266 m 6 = H m 6 := (f5271 m 6 _ gm rfl)
      have k5286 : H5266 x 11 = H x 11 := (f5271 x 11 _ gx rfl)
      have k5287 : H5266 m 13 = H m 13 := (f5271 m 13 _ gm rfl)
      have k5288 : H5266 x 8 = H x 8 := (f5271 x 8 _ gx rfl)
      have k5289 : H5266 m 3 = H m 3 := (f5271 m 3 _ gm rfl)
      rw [show H5266 0 ((i + 1).toNat) = H 0 ((i + 1).toNat) by omega]
      have h5290 : RB T H5266 m e8 d8 := (RB_fr hW gm f5271 rfl hrb8)
      have h5291 : KNN T H5266 m e8 d8 := (KNN_fr hW gm f5271 rfl hknn8)
      refine wl_of hX hb cL_1309 (xc_V (pc' := 1312) (r := m) (as := [vI (H 0 ((i + 1).toNat)), vI 0]) (st := []) (lm_11_170) rfl rfl (Nat.le_of_ble_eq_true rfl) w5270 gm sh_42 (by decide) rfl (by decide) (u_279 (e := e8) (d := d8) w5270 gm ⟨by omega, by omega⟩ ⟨by decide, by decide⟩ (by omega) (by assumption) (by assumption) (by assumption) (by assumption) h5290 h5291) (fun R5292 T5293 H5294 p5295 => ?_))
      obtain ⟨e5296, w5298, f5299, z5300, e5297, b5301, p5302⟩ := p5295
      subst e5296
      subst e5297
      obtain ⟨a5303, a5304⟩ := p5302
      show WL _ _ _ _ 1312 [(4, vI i), (3, .ref o), (2, .ref m), (1, .ref x), (0, .ref 0)] [vI z5300] _ H5294
      refine wl_of hX hb cL_1312 (rw_pop (pc' := 1313) rfl rfl ?_)
      refine wl_of hX hb cL_1313 (rw_goto (p1 := 1653) (by decide) ?_)
      have k5305 : H5294 x 9 = H5266 x 9 := (f5299 x 9 _ gx rfl)
      have k5306 : H5294 m 6 = H5266 m 6 := (f5299 m 6 _ gm rfl)
      have k5307 : H5294 x 11 = H5266 x 11 := (f5299 x 11 _ gx rfl)
      have k5308 : H5294 m 13 = H5266 m 13 := (f5299 m 13 _ gm rfl)
      have k5309 : H5294 x 8 = H5266 x 8 := (f5299 x 8 _ gx rfl)
      have k5310 : H5294 m 3 = H5266 m 3 := (f5299 m 3 _ gm rfl)
      have k5311 : H5294 x 0 = H x 0 := ((f5299 x 0 _ gx rfl).trans (f5271 x 0 _ gx rfl))
      have q5312 : H5294 x 0 = (tc : Int) := k5311.trans e0
      have k5313 : H5294 m 5 = H m 5 := ((f5299 m 5 _ gm rfl).trans (f5271 m 5 _ gm rfl))
      have q5314 : H5294 m 5 = (tm : Int) := k5313.trans em
      have k5315 : H5294 x 6 = H x 6 := ((f5299 x 6 _ gx rfl).trans (f5271 x 6 _ gx rfl))
      have q5316 : H5294 x 6 = (cu : Int) := k5315.trans ecu
      have k5317 : H5294 x 7 = H x 7 := ((f5299 x 7 _ gx rfl).trans (f5271 x 7 _ gx rfl))
      have q5318 : H5294 x 7 = (dr : Int) := k5317.trans edr
      have h5319 : CEN T H5294 ce8 e8 d8 := (CEN_fr w5270 gce8 f5299 rfl p5274)
      have h5320 : TP T H5294 tc B := (TP_fr w5270 gtc f5299 rfl (TP_fr hW gtc f5271 rfl htc))
      have h5321 : TM T H5294 tm B := (TM_fr w5270 gtm f5299 rfl (TM_fr hW gtm f5271 rfl htm))
      have h5322 : DD T H5294 cu  := (DD_fr w5270 gcu f5299 rfl (DD_fr hW gcu f5271 rfl hcu))
      have h5323 : DD T H5294 dr  := (DD_fr w5270 gdr f5299 rfl (DD_fr hW gdr f5271 rfl hdr))
      have h5324 : DE T H5294 cu  := (DE_fr w5270 gcu f5299 rfl (DE_fr hW gcu f5271 rfl hdec))
      have h5325 : DE T H5294 dr  := (DE_fr w5270 gdr f5299 rfl (DE_fr hW gdr f5271 rfl hded))
      have h5326 : SP T H5294 x C8 := (SP_fr w5270 gx f5299 rfl (SP_fr hW gx f5271 rfl hsp))
      have h5327 : CU T H5294 cu e8 d8 n8 := (CU_fr w5270 gcu f5299 rfl (CU_fr hW gcu f5271 rfl hcu8))
      have h5328 : CY T H5294 cu (d8 0 3) g8 (H cu 17) := (CY_fr w5270 gcu f5299 rfl (CY_fr hW gcu f5271 rfl h5259))
      have k5329 : H5294 x 3 = H x 3 := ((f5299 x 3 _ gx rfl).trans (f5271 x 3 _ gx rfl))
      have q5330 : H5294 x 3 = (ce8 : Int) := k5329.trans ece8
      have h5331 : HDR T H5294 ce8  := (HDR_fr w5270 gce8 f5299 rfl (HDR_fr hW gce8 f5271 rfl hhdr8))
      have h5332 : RY T H5294 m (d8 0 3) g8 (H m 32) := (RY_fr w5270 gm f5299 rfl (RY_fr hW gm f5271 rfl h5260))
      have h5333 : RB T H5294 m e8 d8 := (RB_fr w5270 gm f5299 rfl h5290)
      exact WL.loc hX (by simp) (next T H5294 ⟨⟨w5298, g0, gx, gm, go, by omega, by omega⟩, ⟨_, tc, tm, cu, dr, _, _, _, _, _, ce8, q5312, gtc, h5320, q5314, gtm, h5321, q5316, gcu, q5318, gdr, h5322, h5323, h5324, h5325, h5326, hC1, hC2, h5327, h5333, (h5328).1, (h5332).1, hE, hZ, (by omega), (by assumption), (by omega), (by first | assumption | exact SG_0), q5330, gce8, h5319, h5331, a5304, gm⟩, by omega, by omega⟩ (by omega) (by omega))
    · refine wl_of hX hb cL_1304 (rw_iconst (pc' := 1305) rfl ?_)
      refine wl_of hX hb cL_1305 (rw_goto (p1 := 1309) (by decide) ?_)
      have k5334 : wKI H5266 m = wKI H m := (wKI_fr hW gm f5271 rfl)
      have k5335 : H5266 x 9 = H x 9 := (f5271 x 9 _ gx rfl)
      have k5336 : H5266 m 6 = H m 6 := (f5271 m 6 _ gm rfl)
      have k5337 : H5266 x 11 = H x 11 := (f5271 x 11 _ gx rfl)
      have k5338 : H5266 m 13 = H m 13 := (f5271 m 13 _ gm rfl)
      have k5339 : H5266 x 8 = H x 8 := (f5271 x 8 _ gx rfl)
      have k5340 : H5266 m 3 = H m 3 := (f5271 m 3 _ gm rfl)
      rw [show H5266 0 ((i + 1).toNat) = H 0 ((i + 1).toNat) by omega]
      have h5341 : RB T H5266 m e8 d8 := (RB_fr hW gm f5271 rfl hrb8)
      have h5342 : KNN T H5266 m e8 d8 := (KNN_fr hW gm f5271 rfl hknn8)
      refine wl_of hX hb cL_1309 (xc_V (pc' := 1312) (r := m) (as := [vI (H 0 ((i + 1).toNat)), vI 1]) (st := []) (lm_11_170) rfl rfl (Nat.le_of_ble_eq_true rfl) w5270 gm sh_42 (by decide) rfl (by decide) (u_279 (e := e8) (d := d8) w5270 gm ⟨by omega, by omega⟩ ⟨by decide, by decide⟩ (by omega) (by assumption) (by assumption) (by assumption) (by assumption) h5341 h5342) (fun R5343 T5344 H5345 p5346 => ?_))
      obtain ⟨e5347, w5349, f5350, z5351, e5348, b5352, p5353⟩ := p5346
      subst e5347
      subst e5348
      obtain ⟨a5354, a5355⟩ := p5353
      show WL _ _ _ _ 1312 [(4, vI i), (3, .ref o), (2, .ref m), (1, .ref x), (0, .ref 0)] [vI z5351] _ H5345
      refine wl_of hX hb cL_1312 (rw_pop (pc' := 1313) rfl rfl ?_)
      refine wl_of hX hb cL_1313 (rw_goto (p1 := 1653) (by decide) ?_)
      have k5356 : H5345 x 9 = H5266 x 9 := (f5350 x 9 _ gx rfl)
      have k5357 : H5345 m 6 = H5266 m 6 := (f5350 m 6 _ gm rfl)
      have k5358 : H5345 x 11 = H5266 x 11 := (f5350 x 11 _ gx rfl)
      have k5359 : H5345 m 13 = H5266 m 13 := (f5350 m 13 _ gm rfl)
      have k5360 : H5345 x 8 = H5266 x 8 := (f5350 x 8 _ gx rfl)
      have k5361 : H5345 m 3 = H5266 m 3 := (f5350 m 3 _ gm rfl)
      have k5362 : H5345 x 0 = H x 0 := ((f5350 x 0 _ gx rfl).trans (f5271 x 0 _ gx rfl))
      have q5363 : H5345 x 0 = (tc : Int) := k5362.trans e0
      have k5364 : H5345 m 5 = H m 5 := ((f5350 m 5 _ gm rfl).trans (f5271 m 5 _ gm rfl))
      have q5365 : H5345 m 5 = (tm : Int) := k5364.trans em
      have k5366 : H5345 x 6 = H x 6 := ((f5350 x 6 _ gx rfl).trans (f5271 x 6 _ gx rfl))
      have q5367 : H5345 x 6 = (cu : Int) := k5366.trans ecu
      have k5368 : H5345 x 7 = H x 7 := ((f5350 x 7 _ gx rfl).trans (f5271 x 7 _ gx rfl))
      have q5369 : H5345 x 7 = (dr : Int) := k5368.trans edr
      have h5370 : CEN T H5345 ce8 e8 d8 := (CEN_fr w5270 gce8 f5350 rfl p5274)
      have h5371 : TP T H5345 tc B := (TP_fr w5270 gtc f5350 rfl (TP_fr hW gtc f5271 rfl htc))
      have h5372 : TM T H5345 tm B := (TM_fr w5270 gtm f5350 rfl (TM_fr hW gtm f5271 rfl htm))
      have h5373 : DD T H5345 cu  := (DD_fr w5270 gcu f5350 rfl (DD_fr hW gcu f5271 rfl hcu))
      have h5374 : DD T H5345 dr  := (DD_fr w5270 gdr f5350 rfl (DD_fr hW gdr f5271 rfl hdr))
      have h5375 : DE T H5345 cu  := (DE_fr w5270 gcu f5350 rfl (DE_fr hW gcu f5271 rfl hdec))
      have h5376 : DE T H5345 dr  := (DE_fr w5270 gdr f5350 rfl (DE_fr hW gdr f5271 rfl hded))
      have h5377 : SP T H5345 x C8 := (SP_fr w5270 gx f5350 rfl (SP_fr hW gx f5271 rfl hsp))
      have h5378 : CU T H5345 cu e8 d8 n8 := (CU_fr w5270 gcu f5350 rfl (CU_fr hW gcu f5271 rfl hcu8))
      have h5379 : CY T H5345 cu (d8 0 3) g8 (H cu 17) := (CY_fr w5270 gcu f5350 rfl (CY_fr hW gcu f5271 rfl h5259))
      have k5380 : H5345 x 3 = H x 3 := ((f5350 x 3 _ gx rfl).trans (f5271 x 3 _ gx rfl))
      have q5381 : H5345 x 3 = (ce8 : Int) := k5380.trans ece8
      have h5382 : HDR T H5345 ce8  := (HDR_fr w5270 gce8 f5350 rfl (HDR_fr hW gce8 f5271 rfl hhdr8))
      have h5383 : RY T H5345 m (d8 0 3) g8 (H m 32) := (RY_fr w5270 gm f5350 rfl (RY_fr hW gm f5271 rfl h5260))
      have h5384 : RB T H5345 m e8 d8 := (RB_fr w5270 gm f5350 rfl h5341)
      exact WL.loc hX (by simp) (next T H5345 ⟨⟨w5349, g0, gx, gm, go, by omega, by omega⟩, ⟨_, tc, tm, cu, dr, _, _, _, _, _, ce8, q5363, gtc, h5371, q5365, gtm, h5372, q5367, gcu, q5369, gdr, h5373, h5374, h5375, h5376, h5377, hC1, hC2, h5378, h5384, (h5379).1, (h5383).1, hE, hZ, (by omega), (by assumption), (by omega), (by first | assumption | exact SG_0), q5381, gce8, h5370, h5382, a5355, gm⟩, by omega, by omega⟩ (by omega) (by omega))
