/-! THE LAW, GONE ON WITH (own work) -/
set_option maxHeartbeats 4000000 in
theorem wl_c40 {kt : Nat → Option mc_E} {CB SB : Nat} {X : mc_S → Prop} {T : wq_T} {H : wq_H} {Len x m o : Nat} {i : Int} (hX : wlX kt CB SB X) (hb : T.2.1 ≤ CB ∧ T.2.2.1 ≤ SB) (hI : wlJ Len x m o T H) (hL : Len ≤ 3072) (hi : 0 ≤ i ∧ i + 6 ≤ Len) (hb2 : T.2.1 + 20 ≤ CB ∧ T.2.2.1 + 500 ≤ SB)  (next : ∀ T' H', wlJ Len x m o T' H' → T'.2.1 ≤ T.2.1 + 20 → T'.2.2.1 ≤ T.2.2.1 + 500 → WL kt CB SB X 1653 (wlL i x m o) [] T' H') : WL kt CB SB X 1404 (wlL i x m o) [] T H := by
  obtain ⟨⟨hW, g0, gx, gm, go, hK, hr⟩, hXI, hY1, hY2⟩ := hI
  refine wl_of hX hb cL_1404 (rw_aload_n (pc' := 1405) (v := .ref x) rfl rfl rfl ?_)
  refine wl_of hX hb cL_1405 (rw_aload_n (pc' := 1406) (v := .ref 0) rfl rfl rfl ?_)
  refine wl_of hX hb cL_1406 (rw_iload (pc' := 1408) (z := i) rfl rfl ?_)
  refine wl_of hX hb cL_1408 (rw_iconst (pc' := 1409) rfl ?_)
  refine wl_of hX hb cL_1409 (rw_iadd (pc' := 1410) rfl ?_)
  refine wl_of hX hb cL_1410 (xa_I (so := 0) (pc' := 1411) (a := 0) hW g0 (wsh_s _) (by omega) (wty_s _ _) (by omega) (by omega) rfl (fun b3714 b3715 => ?_))
  obtain ⟨B, tc, tm, cu, dr, C8, e8, d8, n8, g8, e0, gtc, htc, em, gtm, htm, ecu, gcu, edr, gdr, hcu, hdr, hdec, hded, hsp, hC1, hC2, hcu8, hrb8, hcg8, hmn8, hE, hZ, hn8, hXA, hV8, hSG, -⟩ := hXI
  have hN3 := RB_n3 hrb8
  have hE13 : ∀ h : Nat, h < 24 → 0 ≤ e8 13 h ∧ e8 13 h ≤ 100 := fun k hk => by
    obtain ⟨s, h1, h2, h3⟩ := hcu8.1.2.2.1
    exact ⟨(h3 k hk).1, (h3 k hk).2.1⟩
  have hXW := hXA.1
  have hXN := hXA.2
  have hE0 : e8 0 3 = d8 0 3 ∧ e8 0 0 = d8 0 0 := by
    have h := hE 0 (by decide)
    exact ⟨congrFun h 3, congrFun h 0⟩
  have u3716 := CU_k hcu8
  have h3717 : CY T H cu (d8 0 3) g8 (H cu 17) := ⟨hcg8, rfl⟩
  have h3718 : RY T H m (d8 0 3) g8 (H m 32) := ⟨hmn8, rfl⟩
  obtain ⟨t9, ht9⟩ : ∃ t : Int, t = H x 9 := ⟨_, rfl⟩
  obtain ⟨y9, hy9⟩ : ∃ y : Int, y = H 0 ((i + 1).toNat) := ⟨_, rfl⟩
  refine wl_of hX hb cL_1411 (xc_V (pc' := 1414) (r := x) (as := [vI (H 0 ((i + 1).toNat))]) (st := []) (lm_11_187) rfl rfl (Nat.le_of_ble_eq_true rfl) hW gx sh_1 (by decide) rfl (by decide) (u_154 (e := e8) (d := d8) (n := n8) (y := ((H 0 ((i + 1).toNat)))) hW gx ⟨by omega, by omega⟩ ecu gcu (by omega) (by omega) (by omega) hcu8) (fun R3719 T3720 H3721 p3722 => ?_))
  obtain ⟨e3723, w3725, f3726, z3727, e3724, b3728, p3729⟩ := p3722
  subst e3723
  subst e3724
  rcases p3729 with ⟨a3730, a3731, a3732, a3733⟩ | ⟨a3734, a3735, a3736⟩
  · show WL _ _ _ _ 1414 [(4, vI i), (3, .ref o), (2, .ref m), (1, .ref x), (0, .ref 0)] [vI z3727] _ H3721
    have u3737 := CU_k a3733
    refine wl_of hX hb cL_1414 (rw_pop (pc' := 1415) rfl rfl ?_)
    refine wl_of hX hb cL_1415 (rw_aload_n (pc' := 1416) (v := .ref m) rfl rfl rfl ?_)
    refine wl_of hX hb cL_1416 (rw_aload_n (pc' := 1417) (v := .ref 0) rfl rfl rfl ?_)
    refine wl_of hX hb cL_1417 (rw_iload (pc' := 1419) (z := i) rfl rfl ?_)
    refine wl_of hX hb cL_1419 (rw_iconst (pc' := 1420) rfl ?_)
    refine wl_of hX hb cL_1420 (rw_iadd (pc' := 1421) rfl ?_)
    have k3740 : H3721 0 ((i + 1).toNat) = H 0 ((i + 1).toNat) := (f3726 0 ((i + 1).toNat) _ g0 (wmem_s rfl))
    refine wl_of hX hb cL_1421 (xa_I (so := 0) (pc' := 1422) (a := 0) w3725 g0 (wsh_s _) (by omega) (wty_s _ _) (by omega) (by omega) rfl (fun b3738 b3739 => ?_))
    have k3741 : wKI H3721 m = wKI H m := (wKI_fr hW gm f3726 rfl)
    have k3742 : H3721 x 9 = H x 9 := (f3726 x 9 _ gx rfl)
    have k3743 : H3721 m 6 = H m 6 := (f3726 m 6 _ gm rfl)
    have k3744 : H3721 x 11 = H x 11 := (f3726 x 11 _ gx rfl)
    have k3745 : H3721 m 13 = H m 13 := (f3726 m 13 _ gm rfl)
    have k3746 : H3721 x 8 = H x 8 := (f3726 x 8 _ gx rfl)
    have k3747 : H3721 m 3 = H m 3 := (f3726 m 3 _ gm rfl)
    rw [show H3721 0 ((i + 1).toNat) = H 0 ((i + 1).toNat) by omega]
    have h3748 : RB T H3721 m e8 d8 := (RB_fr hW gm f3726 rfl hrb8)
    refine wl_of hX hb cL_1422 (xc_V (pc' := 1425) (r := m) (as := [vI (H 0 ((i + 1).toNat))]) (st := []) (lm_11_191) rfl rfl (Nat.le_of_ble_eq_true rfl) w3725 gm sh_42 (by decide) rfl (by decide) (u_286 (e := e8) (d := d8) (y := ((H 0 ((i + 1).toNat)))) w3725 gm ⟨by omega, by omega⟩ (by omega) (by omega) h3748) (fun R3749 T3750 H3751 p3752 => ?_))
    obtain ⟨e3753, w3755, f3756, z3757, e3754, b3758, p3759⟩ := p3752
    subst e3753
    subst e3754
    rcases p3759 with ⟨a3760, a3761, a3762, a3763, a3764⟩ | ⟨a3765, a3766, a3767, a3768⟩
    · show WL _ _ _ _ 1425 [(4, vI i), (3, .ref o), (2, .ref m), (1, .ref x), (0, .ref 0)] [vI z3757] _ H3751
      refine wl_of hX hb cL_1425 (rw_pop (pc' := 1426) rfl rfl ?_)
      refine wl_of hX hb cL_1426 (rw_goto (p1 := 1653) (by decide) ?_)
      have k3769 : H3751 x 9 = H3721 x 9 := (f3756 x 9 _ gx rfl)
      have k3770 : H3751 m 6 = H3721 m 6 := (f3756 m 6 _ gm rfl)
      have k3771 : H3751 x 11 = H3721 x 11 := (f3756 x 11 _ gx rfl)
      have k3772 : H3751 m 13 = H3721 m 13 := (f3756 m 13 _ gm rfl)
      have k3773 : H3751 x 8 = H3721 x 8 := (f3756 x 8 _ gx rfl)
      have k3774 : H3751 m 3 = H3721 m 3 := (f3756 m 3 _ gm rfl)
      have k3775 : H3751 x 0 = H x 0 := ((f3756 x 0 _ gx rfl).trans (f3726 x 0 _ gx rfl))
      have q3776 : H3751 x 0 = (tc : Int) := k3775.trans e0
      have k3777 : H3751 m 5 = H m 5 := ((f3756 m 5 _ gm rfl).trans (f3726 m 5 _ gm rfl))
      have q3778 : H3751 m 5 = (tm : Int) := k3777.trans em
      have k3779 : H3751 x 6 = H x 6 := ((f3756 x 6 _ gx rfl).trans (f3726 x 6 _ gx rfl))
      have q3780 : H3751 x 6 = (cu : Int) := k3779.trans ecu
      have k3781 : H3751 x 7 = H x 7 := ((f3756 x 7 _ gx rfl).trans (f3726 x 7 _ gx rfl))
      have q3782 : H3751 x 7 = (dr : Int) := k3781.trans edr
      have h3783 : TP T H3751 tc B := (TP_fr w3725 gtc f3756 rfl (TP_fr hW gtc f3726 rfl htc))
      have h3784 : TM T H3751 tm B := (TM_fr w3725 gtm f3756 rfl (TM_fr hW gtm f3726 rfl htm))
      have h3785 : DD T H3751 cu  := (DD_fr w3725 gcu f3756 rfl (DD_fr hW gcu f3726 rfl hcu))
      have h3786 : DD T H3751 dr  := (DD_fr w3725 gdr f3756 rfl (DD_fr hW gdr f3726 rfl hdr))
      have h3787 : DE T H3751 cu  := (DE_fr w3725 gcu f3756 rfl (DE_fr hW gcu f3726 rfl hdec))
      have h3788 : DE T H3751 dr  := (DE_fr w3725 gdr f3756 rfl (DE_fr hW gdr f3726 rfl hded))
      have h3789 : SP T H3751 x C8 := (SP_fr w3725 gx f3756 rfl (SP_fr hW gx f3726 rfl hsp))
      have h3790 : CU T H3751 cu (wq_u e8 13 (((H 0 ((i + 1).toNat)))).toNat 0) d8 n8 := (CU_fr w3725 gcu f3756 rfl a3733)
      have h3791 : CY T H3751 cu (d8 0 3) g8 (H cu 17) := (CY_fr w3725 gcu f3756 rfl (CY_fr hW gcu f3726 rfl h3717))
      have h3792 : RY T H3751 m (d8 0 3) g8 (H m 32) := (RY_fr w3725 gm f3756 rfl (RY_fr hW gm f3726 rfl h3718))
      exact WL.loc hX (by simp) (next T H3751 ⟨⟨w3755, g0, gx, gm, go, by omega, by omega⟩, ⟨_, tc, tm, cu, dr, _, _, _, _, _, q3776, gtc, h3783, q3778, gtm, h3784, q3780, gcu, q3782, gdr, h3785, h3786, h3787, h3788, h3789, hC1, hC2, h3790, a3764, (h3791).1, (h3792).1, (fun i hi => (wq_u_row hi).trans (hE i hi)), (fun h h1 h2 => by rw [wq_u_e2 (fun c => by omega)]; exact hZ h h1 h2), (by omega), (by assumption), (by omega), (by first | assumption | exact SG_0), gm⟩, by omega, by omega⟩ (by omega) (by omega))
    · show WL _ _ _ _ 1425 [(4, vI i), (3, .ref o), (2, .ref m), (1, .ref x), (0, .ref 0)] [vI z3757] _ H3751
      refine wl_of hX hb cL_1425 (rw_pop (pc' := 1426) rfl rfl ?_)
      refine wl_of hX hb cL_1426 (rw_goto (p1 := 1653) (by decide) ?_)
      have k3793 : H3751 x 9 = H3721 x 9 := (f3756 x 9 _ gx rfl)
      have k3794 : H3751 m 6 = H3721 m 6 := (f3756 m 6 _ gm rfl)
      have k3795 : H3751 x 11 = H3721 x 11 := (f3756 x 11 _ gx rfl)
      have k3796 : H3751 m 13 = H3721 m 13 := (f3756 m 13 _ gm rfl)
      have k3797 : H3751 x 8 = H3721 x 8 := (f3756 x 8 _ gx rfl)
      have k3798 : H3751 m 3 = H3721 m 3 := (f3756 m 3 _ gm rfl)
      have k3799 : H3751 x 0 = H x 0 := ((f3756 x 0 _ gx rfl).trans (f3726 x 0 _ gx rfl))
      have q3800 : H3751 x 0 = (tc : Int) := k3799.trans e0
      have k3801 : H3751 m 5 = H m 5 := ((f3756 m 5 _ gm rfl).trans (f3726 m 5 _ gm rfl))
      have q3802 : H3751 m 5 = (tm : Int) := k3801.trans em
      have k3803 : H3751 x 6 = H x 6 := ((f3756 x 6 _ gx rfl).trans (f3726 x 6 _ gx rfl))
      have q3804 : H3751 x 6 = (cu : Int) := k3803.trans ecu
      have k3805 : H3751 x 7 = H x 7 := ((f3756 x 7 _ gx rfl).trans (f3726 x 7 _ gx rfl))
      have q3806 : H3751 x 7 = (dr : Int) := k3805.trans edr
      have h3807 : TP T H3751 tc B := (TP_fr w3725 gtc f3756 rfl (TP_fr hW gtc f3726 rfl htc))
      have h3808 : TM T H3751 tm B := (TM_fr w3725 gtm f3756 rfl (TM_fr hW gtm f3726 rfl htm))
      have h3809 : DD T H3751 cu  := (DD_fr w3725 gcu f3756 rfl (DD_fr hW gcu f3726 rfl hcu))
      have h3810 : DD T H3751 dr  := (DD_fr w3725 gdr f3756 rfl (DD_fr hW gdr f3726 rfl hdr))
      have h3811 : DE T H3751 cu  := (DE_fr w3725 gcu f3756 rfl (DE_fr hW gcu f3726 rfl hdec))
      have h3812 : DE T H3751 dr  := (DE_fr w3725 gdr f3756 rfl (DE_fr hW gdr f3726 rfl hded))
      have h3813 : SP T H3751 x C8 := (SP_fr w3725 gx f3756 rfl (SP_fr hW gx f3726 rfl hsp))
      have h3814 : CU T H3751 cu (wq_u e8 13 (((H 0 ((i + 1).toNat)))).toNat 0) d8 n8 := (CU_fr w3725 gcu f3756 rfl a3733)
      have h3815 : CY T H3751 cu (d8 0 3) g8 (H cu 17) := (CY_fr w3725 gcu f3756 rfl (CY_fr hW gcu f3726 rfl h3717))
      exfalso
      omega
  · show WL _ _ _ _ 1414 [(4, vI i), (3, .ref o), (2, .ref m), (1, .ref x), (0, .ref 0)] [vI z3727] _ H3721
    have u3816 := CU_k a3736
    refine wl_of hX hb cL_1414 (rw_pop (pc' := 1415) rfl rfl ?_)
    refine wl_of hX hb cL_1415 (rw_aload_n (pc' := 1416) (v := .ref m) rfl rfl rfl ?_)
    refine wl_of hX hb cL_1416 (rw_aload_n (pc' := 1417) (v := .ref 0) rfl rfl rfl ?_)
    refine wl_of hX hb cL_1417 (rw_iload (pc' := 1419) (z := i) rfl rfl ?_)
    refine wl_of hX hb cL_1419 (rw_iconst (pc' := 1420) rfl ?_)
    refine wl_of hX hb cL_1420 (rw_iadd (pc' := 1421) rfl ?_)
    have k3819 : H3721 0 ((i + 1).toNat) = H 0 ((i + 1).toNat) := (f3726 0 ((i + 1).toNat) _ g0 (wmem_s rfl))
    refine wl_of hX hb cL_1421 (xa_I (so := 0) (pc' := 1422) (a := 0) w3725 g0 (wsh_s _) (by omega) (wty_s _ _) (by omega) (by omega) rfl (fun b3817 b3818 => ?_))
    have k3820 : wKI H3721 m = wKI H m := (wKI_fr hW gm f3726 rfl)
    have k3821 : H3721 x 9 = H x 9 := (f3726 x 9 _ gx rfl)
    have k3822 : H3721 m 6 = H m 6 := (f3726 m 6 _ gm rfl)
    have k3823 : H3721 x 11 = H x 11 := (f3726 x 11 _ gx rfl)
    have k3824 : H3721 m 13 = H m 13 := (f3726 m 13 _ gm rfl)
    have k3825 : H3721 x 8 = H x 8 := (f3726 x 8 _ gx rfl)
    have k3826 : H3721 m 3 = H m 3 := (f3726 m 3 _ gm rfl)
    rw [show H3721 0 ((i + 1).toNat) = H 0 ((i + 1).toNat) by omega]
    have h3827 : RB T H3721 m e8 d8 := (RB_fr hW gm f3726 rfl hrb8)
    refine wl_of hX hb cL_1422 (xc_V (pc' := 1425) (r := m) (as := [vI (H 0 ((i + 1).toNat))]) (st := []) (lm_11_191) rfl rfl (Nat.le_of_ble_eq_true rfl) w3725 gm sh_42 (by decide) rfl (by decide) (u_286 (e := e8) (d := d8) (y := ((H 0 ((i + 1).toNat)))) w3725 gm ⟨by omega, by omega⟩ (by omega) (by omega) h3827) (fun R3828 T3829 H3830 p3831 => ?_))
    obtain ⟨e3832, w3834, f3835, z3836, e3833, b3837, p3838⟩ := p3831
    subst e3832
    subst e3833
    rcases p3838 with ⟨a3839, a3840, a3841, a3842, a3843⟩ | ⟨a3844, a3845, a3846, a3847⟩
    · show WL _ _ _ _ 1425 [(4, vI i), (3, .ref o), (2, .ref m), (1, .ref x), (0, .ref 0)] [vI z3836] _ H3830
      refine wl_of hX hb cL_1425 (rw_pop (pc' := 1426) rfl rfl ?_)
      refine wl_of hX hb cL_1426 (rw_goto (p1 := 1653) (by decide) ?_)
      have k3848 : H3830 x 9 = H3721 x 9 := (f3835 x 9 _ gx rfl)
      have k3849 : H3830 m 6 = H3721 m 6 := (f3835 m 6 _ gm rfl)
      have k3850 : H3830 x 11 = H3721 x 11 := (f3835 x 11 _ gx rfl)
      have k3851 : H3830 m 13 = H3721 m 13 := (f3835 m 13 _ gm rfl)
      have k3852 : H3830 x 8 = H3721 x 8 := (f3835 x 8 _ gx rfl)
      have k3853 : H3830 m 3 = H3721 m 3 := (f3835 m 3 _ gm rfl)
      have k3854 : H3830 x 0 = H x 0 := ((f3835 x 0 _ gx rfl).trans (f3726 x 0 _ gx rfl))
      have q3855 : H3830 x 0 = (tc : Int) := k3854.trans e0
      have k3856 : H3830 m 5 = H m 5 := ((f3835 m 5 _ gm rfl).trans (f3726 m 5 _ gm rfl))
      have q3857 : H3830 m 5 = (tm : Int) := k3856.trans em
      have k3858 : H3830 x 6 = H x 6 := ((f3835 x 6 _ gx rfl).trans (f3726 x 6 _ gx rfl))
      have q3859 : H3830 x 6 = (cu : Int) := k3858.trans ecu
      have k3860 : H3830 x 7 = H x 7 := ((f3835 x 7 _ gx rfl).trans (f3726 x 7 _ gx rfl))
      have q3861 : H3830 x 7 = (dr : Int) := k3860.trans edr
      have h3862 : TP T H3830 tc B := (TP_fr w3725 gtc f3835 rfl (TP_fr hW gtc f3726 rfl htc))
      have h3863 : TM T H3830 tm B := (TM_fr w3725 gtm f3835 rfl (TM_fr hW gtm f3726 rfl htm))
      have h3864 : DD T H3830 cu  := (DD_fr w3725 gcu f3835 rfl (DD_fr hW gcu f3726 rfl hcu))
      have h3865 : DD T H3830 dr  := (DD_fr w3725 gdr f3835 rfl (DD_fr hW gdr f3726 rfl hdr))
      have h3866 : DE T H3830 cu  := (DE_fr w3725 gcu f3835 rfl (DE_fr hW gcu f3726 rfl hdec))
      have h3867 : DE T H3830 dr  := (DE_fr w3725 gdr f3835 rfl (DE_fr hW gdr f3726 rfl hded))
      have h3868 : SP T H3830 x C8 := (SP_fr w3725 gx f3835 rfl (SP_fr hW gx f3726 rfl hsp))
      have h3869 : CU T H3830 cu e8 d8 n8 := (CU_fr w3725 gcu f3835 rfl a3736)
      have h3870 : CY T H3830 cu (d8 0 3) g8 (H cu 17) := (CY_fr w3725 gcu f3835 rfl (CY_fr hW gcu f3726 rfl h3717))
      exfalso
      omega
    · show WL _ _ _ _ 1425 [(4, vI i), (3, .ref o), (2, .ref m), (1, .ref x), (0, .ref 0)] [vI z3836] _ H3830
      refine wl_of hX hb cL_1425 (rw_pop (pc' := 1426) rfl rfl ?_)
      refine wl_of hX hb cL_1426 (rw_goto (p1 := 1653) (by decide) ?_)
      have k3871 : H3830 x 9 = H3721 x 9 := (f3835 x 9 _ gx rfl)
      have k3872 : H3830 m 6 = H3721 m 6 := (f3835 m 6 _ gm rfl)
      have k3873 : H3830 x 11 = H3721 x 11 := (f3835 x 11 _ gx rfl)
      have k3874 : H3830 m 13 = H3721 m 13 := (f3835 m 13 _ gm rfl)
      have k3875 : H3830 x 8 = H3721 x 8 := (f3835 x 8 _ gx rfl)
      have k3876 : H3830 m 3 = H3721 m 3 := (f3835 m 3 _ gm rfl)
      have k3877 : H3830 x 0 = H x 0 := ((f3835 x 0 _ gx rfl).trans (f3726 x 0 _ gx rfl))
      have q3878 : H3830 x 0 = (tc : Int) := k3877.trans e0
      have k3879 : H3830 m 5 = H m 5 := ((f3835 m 5 _ gm rfl).trans (f3726 m 5 _ gm rfl))
      have q3880 : H3830 m 5 = (tm : Int) := k3879.trans em
      have k3881 : H3830 x 6 = H x 6 := ((f3835 x 6 _ gx rfl).trans (f3726 x 6 _ gx rfl))
      have q3882 : H3830 x 6 = (cu : Int) := k3881.trans ecu
      have k3883 : H3830 x 7 = H x 7 := ((f3835 x 7 _ gx rfl).trans (f3726 x 7 _ gx rfl))
      have q3884 : H3830 x 7 = (dr : Int) := k3883.trans edr
      have h3885 : TP T H3830 tc B := (TP_fr w3725 gtc f3835 rfl (TP_fr hW gtc f3726 rfl htc))
      have h3886 : TM T H3830 tm B := (TM_fr w3725 gtm f3835 rfl (TM_fr hW gtm f3726 rfl htm))
      have h3887 : DD T H3830 cu  := (DD_fr w3725 gcu f3835 rfl (DD_fr hW gcu f3726 rfl hcu))
      have h3888 : DD T H3830 dr  := (DD_fr w3725 gdr f3835 rfl (DD_fr hW gdr f3726 rfl hdr))
      have h3889 : DE T H3830 cu  := (DE_fr w3725 gcu f3835 rfl (DE_fr hW gcu f3726 rfl hdec))
      have h3890 : DE T H3830 dr  := (DE_fr w3725 gdr f3835 rfl (DE_fr hW gdr f3726 rfl hded))
      have h3891 : SP T H3830 x C8 := (SP_fr w3725 gx f3835 rfl (SP_fr hW gx f3726 rfl hsp))
      have h3892 : CU T H3830 cu e8 d8 n8 := (CU_fr w3725 gcu f3835 rfl a3736)
      have h3893 : CY T H3830 cu (d8 0 3) g8 (H cu 17) := (CY_fr w3725 gcu f3835 rfl (CY_fr hW gcu f3726 rfl h3717))
      have h3894 : RY T H3830 m (d8 0 3) g8 (H m 32) := (RY_fr w3725 gm f3835 rfl (RY_fr hW gm f3726 rfl h3718))
      exact WL.loc hX (by simp) (next T H3830 ⟨⟨w3834, g0, gx, gm, go, by omega, by omega⟩, ⟨_, tc, tm, cu, dr, _, _, _, _, _, q3878, gtc, h3885, q3880, gtm, h3886, q3882, gcu, q3884, gdr, h3887, h3888, h3889, h3890, h3891, hC1, hC2, h3892, a3847, (h3893).1, (h3894).1, hE, hZ, (by omega), (by assumption), (by omega), (by first | assumption | exact SG_0), gm⟩, by omega, by omega⟩ (by omega) (by omega))
set_option maxHeartbeats 4000000 in
theorem wl_c41 {kt : Nat → Option mc_E} {CB SB : Nat} {X : mc_S → Prop} {T : wq_T} {H : wq_H} {Len x m o : Nat} {i : Int} (hX : wlX kt CB SB X) (hb : T.2.1 ≤ CB ∧ T.2.2.1 ≤ SB) (hI : wlJ Len x m o T H) (hL : Len ≤ 3072) (hi : 0 ≤ i ∧ i + 6 ≤ Len) (hb2 : T.2.1 + 20 ≤ CB ∧ T.2.2.1 + 500 ≤ SB)  (next : ∀ T' H', wlJ Len x m o T' H' → T'.2.1 ≤ T.2.1 + 20 → T'.2.2.1 ≤ T.2.2.1 + 500 → WL kt CB SB X 1653 (wlL i x m o) [] T' H') : WL kt CB SB X 1429 (wlL i x m o) [] T H := by
  obtain ⟨⟨hW, g0, gx, gm, go, hK, hr⟩, hXI, hY1, hY2⟩ := hI
  refine wl_of hX hb cL_1429 (rw_aload_n (pc' := 1430) (v := .ref x) rfl rfl rfl ?_)
  refine wl_of hX hb cL_1430 (rw_aload_n (pc' := 1431) (v := .ref 0) rfl rfl rfl ?_)
  refine wl_of hX hb cL_1431 (rw_iload (pc' := 1433) (z := i) rfl rfl ?_)
  refine wl_of hX hb cL_1433 (rw_iconst (pc' := 1434) rfl ?_)
  refine wl_of hX hb cL_1434 (rw_iadd (pc' := 1435) rfl ?_)
  refine wl_of hX hb cL_1435 (xa_I (so := 0) (pc' := 1436) (a := 0) hW g0 (wsh_s _) (by omega) (wty_s _ _) (by omega) (by omega) rfl (fun b3895 b3896 => ?_))
  refine wl_of hX hb cL_1436 (xc_V (pc' := 1439) (r := x) (as := [vI (H 0 ((i + 1).toNat))]) (st := []) (lm_11_192) rfl rfl (Nat.le_of_ble_eq_true rfl) hW gx sh_1 (by decide) rfl (by decide) (s_155 hW gx ⟨by omega, by omega⟩) (fun R3897 T3898 H3899 p3900 => ?_))
  obtain ⟨e3901, w3903, f3904, z3905, e3902, b3906⟩ := p3900
  subst e3901
  subst e3902
  show WL _ _ _ _ 1439 [(4, vI i), (3, .ref o), (2, .ref m), (1, .ref x), (0, .ref 0)] [vI z3905] _ H3899
  refine wl_of hX hb cL_1439 (rw_pop (pc' := 1440) rfl rfl ?_)
  refine wl_of hX hb cL_1440 (rw_aload_n (pc' := 1441) (v := .ref m) rfl rfl rfl ?_)
  refine wl_of hX hb cL_1441 (rw_aload_n (pc' := 1442) (v := .ref 0) rfl rfl rfl ?_)
  refine wl_of hX hb cL_1442 (rw_iload (pc' := 1444) (z := i) rfl rfl ?_)
  refine wl_of hX hb cL_1444 (rw_iconst (pc' := 1445) rfl ?_)
  refine wl_of hX hb cL_1445 (rw_iadd (pc' := 1446) rfl ?_)
  have k3909 : H3899 0 ((i + 1).toNat) = H 0 ((i + 1).toNat) := (f3904 0 ((i + 1).toNat) _ g0 (wmem_s rfl))
  refine wl_of hX hb cL_1446 (xa_I (so := 0) (pc' := 1447) (a := 0) w3903 g0 (wsh_s _) (by omega) (wty_s _ _) (by omega) (by omega) rfl (fun b3907 b3908 => ?_))
  have k3910 : wKI H3899 m = wKI H m := (wKI_fr hW gm f3904 rfl)
  have k3911 : H3899 x 9 = H x 9 := (f3904 x 9 _ gx rfl)
  have k3912 : H3899 m 6 = H m 6 := (f3904 m 6 _ gm rfl)
  have k3913 : H3899 x 11 = H x 11 := (f3904 x 11 _ gx rfl)
  have k3914 : H3899 m 13 = H m 13 := (f3904 m 13 _ gm rfl)
  have k3915 : H3899 x 8 = H x 8 := (f3904 x 8 _ gx rfl)
  have k3916 : H3899 m 3 = H m 3 := (f3904 m 3 _ gm rfl)
  refine wl_of hX hb cL_1447 (xc_V (pc' := 1450) (r := m) (as := [vI (H3899 0 ((i + 1).toNat))]) (st := []) (lm_11_195) rfl rfl (Nat.le_of_ble_eq_true rfl) w3903 gm sh_42 (by decide) rfl (by decide) (s_287 w3903 gm ⟨by omega, by omega⟩ (by omega)) (fun R3917 T3918 H3919 p3920 => ?_))
  obtain ⟨e3921, w3923, f3924, z3926, e3922, b3927, p3925⟩ := p3920
  subst e3921
  subst e3922
  show WL _ _ _ _ 1450 [(4, vI i), (3, .ref o), (2, .ref m), (1, .ref x), (0, .ref 0)] [vI z3926] _ H3919
  refine wl_of hX hb cL_1450 (rw_pop (pc' := 1451) rfl rfl ?_)
  refine wl_of hX hb cL_1451 (rw_goto (p1 := 1653) (by decide) ?_)
  have k3928 : H3919 x 9 = H3899 x 9 := (f3924 x 9 _ gx rfl)
  have k3929 : H3919 m 6 = H3899 m 6 := (f3924 m 6 _ gm rfl)
  have k3930 : H3919 x 11 = H3899 x 11 := (f3924 x 11 _ gx rfl)
  have k3931 : H3919 m 13 = H3899 m 13 := (f3924 m 13 _ gm rfl)
  have k3932 : H3919 x 8 = H3899 x 8 := (f3924 x 8 _ gx rfl)
  have k3933 : H3919 m 3 = H3899 m 3 := (f3924 m 3 _ gm rfl)
  have h3934 : XI T H3919 x m := (XI_fr w3903 gx f3924 rfl (XI_fr hW gx f3904 rfl hXI))
  exact WL.loc hX (by simp) (next T H3919 ⟨⟨w3923, g0, gx, gm, go, by omega, by omega⟩, h3934, by omega, by omega⟩ (by omega) (by omega))
set_option maxHeartbeats 4000000 in
theorem wl_c42 {kt : Nat → Option mc_E} {CB SB : Nat} {X : mc_S → Prop} {T : wq_T} {H : wq_H} {Len x m o : Nat} {i : Int} (hX : wlX kt CB SB X) (hb : T.2.1 ≤ CB ∧ T.2.2.1 ≤ SB) (hI : wlJ Len x m o T H) (hL : Len ≤ 3072) (hi : 0 ≤ i ∧ i + 6 ≤ Len) (hb2 : T.2.1 + 20 ≤ CB ∧ T.2.2.1 + 500 ≤ SB)  (next : ∀ T' H', wlJ Len x m o T' H' → T'.2.1 ≤ T.2.1 + 20 → T'.2.2.1 ≤ T.2.2.1 + 500 → WL kt CB SB X 1653 (wlL i x m o) [] T' H') : WL kt CB SB X 1454 (wlL i x m o) [] T H := by
  obtain ⟨⟨hW, g0, gx, gm, go, hK, hr⟩, hXI, hY1, hY2⟩ := hI
  refine wl_of hX hb cL_1454 (rw_aload_n (pc' := 1455) (v := .ref x) rfl rfl rfl ?_)
  refine wl_of hX hb cL_1455 (xc_V (pc' := 1458) (r := x) (as := []) (st := []) (lm_11_196) rfl rfl (Nat.le_of_ble_eq_true rfl) hW gx sh_1 (by decide) rfl (by decide) (s_156 hW gx) (fun R3935 T3936 H3937 p3938 => ?_))
  obtain ⟨e3939, w3941, f3942, z3943, e3940, b3944⟩ := p3938
  subst e3939
  subst e3940
  show WL _ _ _ _ 1458 [(4, vI i), (3, .ref o), (2, .ref m), (1, .ref x), (0, .ref 0)] [vI z3943] _ H3937
  refine wl_of hX hb cL_1458 (rw_pop (pc' := 1459) rfl rfl ?_)
  refine wl_of hX hb cL_1459 (rw_aload_n (pc' := 1460) (v := .ref m) rfl rfl rfl ?_)
  have k3945 : wKI H3937 m = wKI H m := (wKI_fr hW gm f3942 rfl)
  have k3946 : H3937 x 9 = H x 9 := (f3942 x 9 _ gx rfl)
  have k3947 : H3937 m 6 = H m 6 := (f3942 m 6 _ gm rfl)
  have k3948 : H3937 x 11 = H x 11 := (f3942 x 11 _ gx rfl)
  have k3949 : H3937 m 13 = H m 13 := (f3942 m 13 _ gm rfl)
  have k3950 : H3937 x 8 = H x 8 := (f3942 x 8 _ gx rfl)
  have k3951 : H3937 m 3 = H m 3 := (f3942 m 3 _ gm rfl)
  refine wl_of hX hb cL_1460 (xc_V (pc' := 1463) (r := m) (as := []) (st := []) (lm_11_199) rfl rfl (Nat.le_of_ble_eq_true rfl) w3941 gm sh_42 (by decide) rfl (by decide) (s_288 w3941 gm (by omega)) (fun R3952 T3953 H3954 p3955 => ?_))
  obtain ⟨e3956, w3958, f3959, z3961, e3957, b3962, p3960⟩ := p3955
  subst e3956
  subst e3957
  show WL _ _ _ _ 1463 [(4, vI i), (3, .ref o), (2, .ref m), (1, .ref x), (0, .ref 0)] [vI z3961] _ H3954
  refine wl_of hX hb cL_1463 (rw_pop (pc' := 1464) rfl rfl ?_)
  refine wl_of hX hb cL_1464 (rw_goto (p1 := 1653) (by decide) ?_)
  have k3963 : H3954 x 9 = H3937 x 9 := (f3959 x 9 _ gx rfl)
  have k3964 : H3954 m 6 = H3937 m 6 := (f3959 m 6 _ gm rfl)
  have k3965 : H3954 x 11 = H3937 x 11 := (f3959 x 11 _ gx rfl)
  have k3966 : H3954 m 13 = H3937 m 13 := (f3959 m 13 _ gm rfl)
  have k3967 : H3954 x 8 = H3937 x 8 := (f3959 x 8 _ gx rfl)
  have k3968 : H3954 m 3 = H3937 m 3 := (f3959 m 3 _ gm rfl)
  have h3969 : XI T H3954 x m := (XI_fr w3941 gx f3959 rfl (XI_fr hW gx f3942 rfl hXI))
  exact WL.loc hX (by simp) (next T H3954 ⟨⟨w3958, g0, gx, gm, go, by omega, by omega⟩, h3969, by omega, by omega⟩ (by omega) (by omega))
set_option maxHeartbeats 4000000 in
theorem wl_c43 {kt : Nat → Option mc_E} {CB SB : Nat} {X : mc_S → Prop} {T : wq_T} {H : wq_H} {Len x m o : Nat} {i : Int} (hX : wlX kt CB SB X) (hb : T.2.1 ≤ CB ∧ T.2.2.1 ≤ SB) (hI : wlJ Len x m o T H) (hL : Len ≤ 3072) (hi : 0 ≤ i ∧ i + 6 ≤ Len) (hb2 : T.2.1 + 20 ≤ CB ∧ T.2.2.1 + 500 ≤ SB)  (next : ∀ T' H', wlJ Len x m o T' H' → T'.2.1 ≤ T.2.1 + 20 → T'.2.2.1 ≤ T.2.2.1 + 500 → WL kt CB SB X 1653 (wlL i x m o) [] T' H') : WL kt CB SB X 1467 (wlL i x m o) [] T H := by
  obtain ⟨⟨hW, g0, gx, gm, go, hK, hr⟩, hXI, hY1, hY2⟩ := hI
  refine wl_of hX hb cL_1467 (rw_aload_n (pc' := 1468) (v := .ref x) rfl rfl rfl ?_)
  refine wl_of hX hb cL_1468 (rw_aload_n (pc' := 1469) (v := .ref 0) rfl rfl rfl ?_)
  refine wl_of hX hb cL_1469 (rw_iload (pc' := 1471) (z := i) rfl rfl ?_)
  refine wl_of hX hb cL_1471 (rw_iconst (pc' := 1472) rfl ?_)
  refine wl_of hX hb cL_1472 (rw_iadd (pc' := 1473) rfl ?_)
  refine wl_of hX hb cL_1473 (xa_I (so := 0) (pc' := 1474) (a := 0) hW g0 (wsh_s _) (by omega) (wty_s _ _) (by omega) (by omega) rfl (fun b3970 b3971 => ?_))
  refine wl_of hX hb cL_1474 (rw_aload_n (pc' := 1475) (v := .ref 0) rfl rfl rfl ?_)
  refine wl_of hX hb cL_1475 (rw_iload (pc' := 1477) (z := i) rfl rfl ?_)
  refine wl_of hX hb cL_1477 (rw_iconst (pc' := 1478) rfl ?_)
  refine wl_of hX hb cL_1478 (rw_iadd (pc' := 1479) rfl ?_)
  refine wl_of hX hb cL_1479 (xa_I (so := 0) (pc' := 1480) (a := 0) hW g0 (wsh_s _) (by omega) (wty_s _ _) (by omega) (by omega) rfl (fun b3972 b3973 => ?_))
  refine wl_of hX hb cL_1480 (xc_V (pc' := 1483) (r := x) (as := [vI (H 0 ((i + 1).toNat)), vI (H 0 ((i + 2).toNat))]) (st := []) (lm_11_200) rfl rfl (Nat.le_of_ble_eq_true rfl) hW gx sh_1 (by decide) rfl (by decide) (s_157 hW gx ⟨by omega, by omega⟩ ⟨by omega, by omega⟩) (fun R3974 T3975 H3976 p3977 => ?_))
  obtain ⟨e3978, w3980, f3981, z3982, e3979, b3983⟩ := p3977
  subst e3978
  subst e3979
  show WL _ _ _ _ 1483 [(4, vI i), (3, .ref o), (2, .ref m), (1, .ref x), (0, .ref 0)] [vI z3982] _ H3976
  refine wl_of hX hb cL_1483 (rw_pop (pc' := 1484) rfl rfl ?_)
  refine wl_of hX hb cL_1484 (rw_aload_n (pc' := 1485) (v := .ref m) rfl rfl rfl ?_)
  refine wl_of hX hb cL_1485 (rw_aload_n (pc' := 1486) (v := .ref 0) rfl rfl rfl ?_)
  refine wl_of hX hb cL_1486 (rw_iload (pc' := 1488) (z := i) rfl rfl ?_)
  refine wl_of hX hb cL_1488 (rw_iconst (pc' := 1489) rfl ?_)
  refine wl_of hX hb cL_1489 (rw_iadd (pc' := 1490) rfl ?_)
  have k3986 : H3976 0 ((i + 1).toNat) = H 0 ((i + 1).toNat) := (f3981 0 ((i + 1).toNat) _ g0 (wmem_s rfl))
  refine wl_of hX hb cL_1490 (xa_I (so := 0) (pc' := 1491) (a := 0) w3980 g0 (wsh_s _) (by omega) (wty_s _ _) (by omega) (by omega) rfl (fun b3984 b3985 => ?_))
  refine wl_of hX hb cL_1491 (rw_aload_n (pc' := 1492) (v := .ref 0) rfl rfl rfl ?_)
  refine wl_of hX hb cL_1492 (rw_iload (pc' := 1494) (z := i) rfl rfl ?_)
  refine wl_of hX hb cL_1494 (rw_iconst (pc' := 1495) rfl ?_)
  refine wl_of hX hb cL_1495 (rw_iadd (pc' := 1496) rfl ?_)
  have k3989 : H3976 0 ((i + 2).toNat) = H 0 ((i + 2).toNat) := (f3981 0 ((i + 2).toNat) _ g0 (wmem_s rfl))
  refine wl_of hX hb cL_1496 (xa_I (so := 0) (pc' := 1497) (a := 0) w3980 g0 (wsh_s _) (by omega) (wty_s _ _) (by omega) (by omega) rfl (fun b3987 b3988 => ?_))
  have k3990 : wKI H3976 m = wKI H m := (wKI_fr hW gm f3981 rfl)
  have k3991 : H3976 x 9 = H x 9 := (f3981 x 9 _ gx rfl)
  have k3992 : H3976 m 6 = H m 6 := (f3981 m 6 _ gm rfl)
  have k3993 : H3976 x 11 = H x 11 := (f3981 x 11 _ gx rfl)
  have k3994 : H3976 m 13 = H m 13 := (f3981 m 13 _ gm rfl)
  have k3995 : H3976 x 8 = H x 8 := (f3981 x 8 _ gx rfl)
  have k3996 : H3976 m 3 = H m 3 := (f3981 m 3 _ gm rfl)
  refine wl_of hX hb cL_1497 (xc_V (pc' := 1500) (r := m) (as := [vI (H3976 0 ((i + 1).toNat)), vI (H3976 0 ((i + 2).toNat))]) (st := []) (lm_11_203) rfl rfl (Nat.le_of_ble_eq_true rfl) w3980 gm sh_42 (by decide) rfl (by decide) (s_289 w3980 gm ⟨by omega, by omega⟩ ⟨by omega, by omega⟩ (by omega)) (fun R3997 T3998 H3999 p4000 => ?_))
  obtain ⟨e4001, w4003, f4004, z4006, e4002, b4007, p4005⟩ := p4000
  subst e4001
  subst e4002
  show WL _ _ _ _ 1500 [(4, vI i), (3, .ref o), (2, .ref m), (1, .ref x), (0, .ref 0)] [vI z4006] _ H3999
  refine wl_of hX hb cL_1500 (rw_pop (pc' := 1501) rfl rfl ?_)
  refine wl_of hX hb cL_1501 (rw_goto (p1 := 1653) (by decide) ?_)
  have k4008 : H3999 x 9 = H3976 x 9 := (f4004 x 9 _ gx rfl)
  have k4009 : H3999 m 6 = H3976 m 6 := (f4004 m 6 _ gm rfl)
  have k4010 : H3999 x 11 = H3976 x 11 := (f4004 x 11 _ gx rfl)
  have k4011 : H3999 m 13 = H3976 m 13 := (f4004 m 13 _ gm rfl)
  have k4012 : H3999 x 8 = H3976 x 8 := (f4004 x 8 _ gx rfl)
  have k4013 : H3999 m 3 = H3976 m 3 := (f4004 m 3 _ gm rfl)
  have h4014 : XI T H3999 x m := (XI_fr w3980 gx f4004 rfl (XI_fr hW gx f3981 rfl hXI))
  exact WL.loc hX (by simp) (next T H3999 ⟨⟨w4003, g0, gx, gm, go, by omega, by omega⟩, h4014, by omega, by omega⟩ (by omega) (by omega))
set_option maxHeartbeats 4000000 in
theorem wl_c44 {kt : Nat → Option mc_E} {CB SB : Nat} {X : mc_S → Prop} {T : wq_T} {H : wq_H} {Len x m o : Nat} {i : Int} (hX : wlX kt CB SB X) (hb : T.2.1 ≤ CB ∧ T.2.2.1 ≤ SB) (hI : wlJ Len x m o T H) (hL : Len ≤ 3072) (hi : 0 ≤ i ∧ i + 6 ≤ Len) (hb2 : T.2.1 + 20 ≤ CB ∧ T.2.2.1 + 500 ≤ SB)  (next : ∀ T' H', wlJ Len x m o T' H' → T'.2.1 ≤ T.2.1 + 20 → T'.2.2.1 ≤ T.2.2.1 + 500 → WL kt CB SB X 1653 (wlL i x m o) [] T' H') : WL kt CB SB X 1504 (wlL i x m o) [] T H := by
  obtain ⟨⟨hW, g0, gx, gm, go, hK, hr⟩, hXI, hY1, hY2⟩ := hI
  refine wl_of hX hb cL_1504 (rw_aload_n (pc' := 1505) (v := .ref x) rfl rfl rfl ?_)
  refine wl_of hX hb cL_1505 (xc_V (pc' := 1508) (r := x) (as := []) (st := []) (lm_11_204) rfl rfl (Nat.le_of_ble_eq_true rfl) hW gx sh_1 (by decide) rfl (by decide) (s_158 hW gx) (fun R4015 T4016 H4017 p4018 => ?_))
  obtain ⟨e4019, w4021, f4022, z4023, e4020, b4024⟩ := p4018
  subst e4019
  subst e4020
  show WL _ _ _ _ 1508 [(4, vI i), (3, .ref o), (2, .ref m), (1, .ref x), (0, .ref 0)] [vI z4023] _ H4017
  refine wl_of hX hb cL_1508 (rw_pop (pc' := 1509) rfl rfl ?_)
  refine wl_of hX hb cL_1509 (rw_aload_n (pc' := 1510) (v := .ref m) rfl rfl rfl ?_)
  have k4025 : wKI H4017 m = wKI H m := (wKI_fr hW gm f4022 rfl)
  have k4026 : H4017 x 9 = H x 9 := (f4022 x 9 _ gx rfl)
  have k4027 : H4017 m 6 = H m 6 := (f4022 m 6 _ gm rfl)
  have k4028 : H4017 x 11 = H x 11 := (f4022 x 11 _ gx rfl)
  have k4029 : H4017 m 13 = H m 13 := (f4022 m 13 _ gm rfl)
  have k4030 : H4017 x 8 = H x 8 := (f4022 x 8 _ gx rfl)
  have k4031 : H4017 m 3 = H m 3 := (f4022 m 3 _ gm rfl)
  refine wl_of hX hb cL_1510 (xc_V (pc' := 1513) (r := m) (as := []) (st := []) (lm_11_208) rfl rfl (Nat.le_of_ble_eq_true rfl) w4021 gm sh_42 (by decide) rfl (by decide) (s_290 w4021 gm (by omega)) (fun R4032 T4033 H4034 p4035 => ?_))
  obtain ⟨e4036, w4038, f4039, z4041, e4037, b4042, p4040⟩ := p4035
  subst e4036
  subst e4037
  show WL _ _ _ _ 1513 [(4, vI i), (3, .ref o), (2, .ref m), (1, .ref x), (0, .ref 0)] [vI z4041] _ H4034
  refine wl_of hX hb cL_1513 (rw_pop (pc' := 1514) rfl rfl ?_)
  refine wl_of hX hb cL_1514 (rw_goto (p1 := 1653) (by decide) ?_)
  have k4043 : H4034 x 9 = H4017 x 9 := (f4039 x 9 _ gx rfl)
  have k4044 : H4034 m 6 = H4017 m 6 := (f4039 m 6 _ gm rfl)
  have k4045 : H4034 x 11 = H4017 x 11 := (f4039 x 11 _ gx rfl)
  have k4046 : H4034 m 13 = H4017 m 13 := (f4039 m 13 _ gm rfl)
  have k4047 : H4034 x 8 = H4017 x 8 := (f4039 x 8 _ gx rfl)
  have k4048 : H4034 m 3 = H4017 m 3 := (f4039 m 3 _ gm rfl)
  have h4049 : XI T H4034 x m := (XI_fr w4021 gx f4039 rfl (XI_fr hW gx f4022 rfl hXI))
  exact WL.loc hX (by simp) (next T H4034 ⟨⟨w4038, g0, gx, gm, go, by omega, by omega⟩, h4049, by omega, by omega⟩ (by omega) (by omega))
set_option maxHeartbeats 4000000 in
theorem wl_c45 {kt : Nat → Option mc_E} {CB SB : Nat} {X : mc_S → Prop} {T : wq_T} {H : wq_H} {Len x m o : Nat} {i : Int} (hX : wlX kt CB SB X) (hb : T.2.1 ≤ CB ∧ T.2.2.1 ≤ SB) (hI : wlJ Len x m o T H) (hL : Len ≤ 3072) (hi : 0 ≤ i ∧ i + 6 ≤ Len) (hb2 : T.2.1 + 20 ≤ CB ∧ T.2.2.1 + 500 ≤ SB)  (next : ∀ T' H', wlJ Len x m o T' H' → T'.2.1 ≤ T.2.1 + 20 → T'.2.2.1 ≤ T.2.2.1 + 500 → WL kt CB SB X 1653 (wlL i x m o) [] T' H') : WL kt CB SB X 1517 (wlL i x m o) [] T H := by
  obtain ⟨⟨hW, g0, gx, gm, go, hK, hr⟩, hXI, hY1, hY2⟩ := hI
  refine wl_of hX hb cL_1517 (rw_aload_n (pc' := 1518) (v := .ref x) rfl rfl rfl ?_)
  refine wl_of hX hb cL_1518 (xc_V (pc' := 1521) (r := x) (as := []) (st := []) (lm_11_209) rfl rfl (Nat.le_of_ble_eq_true rfl) hW gx sh_1 (by decide) rfl (by decide) (s_159 hW gx) (fun R4050 T4051 H4052 p4053 => ?_))
  obtain ⟨e4054, w4056, f4057, z4058, e4055, b4059⟩ := p4053
  subst e4054
  subst e4055
  show WL _ _ _ _ 1521 [(4, vI i), (3, .ref o), (2, .ref m), (1, .ref x), (0, .ref 0)] [vL z4058] _ H4052
  refine wl_of hX hb cL_1521 (rw_pop2 (pc' := 1522) rfl rfl ?_)
  refine wl_of hX hb cL_1522 (rw_aload_n (pc' := 1523) (v := .ref m) rfl rfl rfl ?_)
  have k4060 : wKI H4052 m = wKI H m := (wKI_fr hW gm f4057 rfl)
  have k4061 : H4052 x 9 = H x 9 := (f4057 x 9 _ gx rfl)
  have k4062 : H4052 m 6 = H m 6 := (f4057 m 6 _ gm rfl)
  have k4063 : H4052 x 11 = H x 11 := (f4057 x 11 _ gx rfl)
  have k4064 : H4052 m 13 = H m 13 := (f4057 m 13 _ gm rfl)
  have k4065 : H4052 x 8 = H x 8 := (f4057 x 8 _ gx rfl)
  have k4066 : H4052 m 3 = H m 3 := (f4057 m 3 _ gm rfl)
  refine wl_of hX hb cL_1523 (xc_V (pc' := 1526) (r := m) (as := []) (st := []) (lm_11_212) rfl rfl (Nat.le_of_ble_eq_true rfl) w4056 gm sh_42 (by decide) rfl (by decide) (s_291 w4056 gm (by omega)) (fun R4067 T4068 H4069 p4070 => ?_))
  obtain ⟨e4071, w4073, f4074, z4076, e4072, b4077, p4075⟩ := p4070
  subst e4071
  subst e4072
  show WL _ _ _ _ 1526 [(4, vI i), (3, .ref o), (2, .ref m), (1, .ref x), (0, .ref 0)] [vL z4076] _ H4069
  refine wl_of hX hb cL_1526 (rw_pop2 (pc' := 1527) rfl rfl ?_)
  refine wl_of hX hb cL_1527 (rw_goto (p1 := 1653) (by decide) ?_)
  have k4078 : H4069 x 9 = H4052 x 9 := (f4074 x 9 _ gx rfl)
  have k4079 : H4069 m 6 = H4052 m 6 := (f4074 m 6 _ gm rfl)
  have k4080 : H4069 x 11 = H4052 x 11 := (f4074 x 11 _ gx rfl)
  have k4081 : H4069 m 13 = H4052 m 13 := (f4074 m 13 _ gm rfl)
  have k4082 : H4069 x 8 = H4052 x 8 := (f4074 x 8 _ gx rfl)
  have k4083 : H4069 m 3 = H4052 m 3 := (f4074 m 3 _ gm rfl)
  have h4084 : XI T H4069 x m := (XI_fr w4056 gx f4074 rfl (XI_fr hW gx f4057 rfl hXI))
  exact WL.loc hX (by simp) (next T H4069 ⟨⟨w4073, g0, gx, gm, go, by omega, by omega⟩, h4084, by omega, by omega⟩ (by omega) (by omega))
set_option maxHeartbeats 4000000 in
theorem wl_c46 {kt : Nat → Option mc_E} {CB SB : Nat} {X : mc_S → Prop} {T : wq_T} {H : wq_H} {Len x m o : Nat} {i : Int} (hX : wlX kt CB SB X) (hb : T.2.1 ≤ CB ∧ T.2.2.1 ≤ SB) (hI : wlJ Len x m o T H) (hL : Len ≤ 3072) (hi : 0 ≤ i ∧ i + 6 ≤ Len) (hb2 : T.2.1 + 20 ≤ CB ∧ T.2.2.1 + 500 ≤ SB)  (next : ∀ T' H', wlJ Len x m o T' H' → T'.2.1 ≤ T.2.1 + 20 → T'.2.2.1 ≤ T.2.2.1 + 500 → WL kt CB SB X 1653 (wlL i x m o) [] T' H') : WL kt CB SB X 1530 (wlL i x m o) [] T H := by
  obtain ⟨⟨hW, g0, gx, gm, go, hK, hr⟩, hXI, hY1, hY2⟩ := hI
  refine wl_of hX hb cL_1530 (rw_aload_n (pc' := 1531) (v := .ref x) rfl rfl rfl ?_)
  refine wl_of hX hb cL_1531 (rw_aload_n (pc' := 1532) (v := .ref 0) rfl rfl rfl ?_)
  refine wl_of hX hb cL_1532 (rw_iload (pc' := 1534) (z := i) rfl rfl ?_)
  refine wl_of hX hb cL_1534 (rw_iconst (pc' := 1535) rfl ?_)
  refine wl_of hX hb cL_1535 (rw_iadd (pc' := 1536) rfl ?_)
  refine wl_of hX hb cL_1536 (xa_I (so := 0) (pc' := 1537) (a := 0) hW g0 (wsh_s _) (by omega) (wty_s _ _) (by omega) (by omega) rfl (fun b4085 b4086 => ?_))
  refine wl_of hX hb cL_1537 (rw_i2l (pc' := 1538) rfl ⟨by omega, by omega⟩ ?_)
  refine wl_of hX hb cL_1538 (rw_bipush (pc' := 1540) (z := 32) rfl (by decide) ?_)
  refine wl_of hX hb cL_1540 (rw_lshl (pc' := 1541) rfl ?_)
  obtain ⟨v4087, e4088⟩ : ∃ x : Int, x = wl_shl (H 0 ((i + 1).toNat)) 32 := ⟨_, rfl⟩
  rw [← e4088]
  have b4089 : -9223372036854775808 ≤ v4087 ∧ v4087 ≤ 9223372036854775807 := by
    rw [e4088]
    exact wL_shl _ _
  refine wl_of hX hb cL_1541 (rw_aload_n (pc' := 1542) (v := .ref 0) rfl rfl rfl ?_)
  refine wl_of hX hb cL_1542 (rw_iload (pc' := 1544) (z := i) rfl rfl ?_)
  refine wl_of hX hb cL_1544 (rw_iconst (pc' := 1545) rfl ?_)
  refine wl_of hX hb cL_1545 (rw_iadd (pc' := 1546) rfl ?_)
  refine wl_of hX hb cL_1546 (xa_I (so := 0) (pc' := 1547) (a := 0) hW g0 (wsh_s _) (by omega) (wty_s _ _) (by omega) (by omega) rfl (fun b4090 b4091 => ?_))
  refine wl_of hX hb cL_1547 (rw_i2l (pc' := 1548) rfl ⟨by omega, by omega⟩ ?_)
  refine wl_of hX hb cL_1548 (rw_ldc2 (pc' := 1551) (z := 4294967295) rfl rfl rfl ?_)
  refine wl_of hX hb cL_1551 (rw_land (pc' := 1552) rfl ?_)
  obtain ⟨v4092, e4093⟩ : ∃ x : Int, x = wl_and (H 0 ((i + 2).toNat)) 4294967295 := ⟨_, rfl⟩
  rw [← e4093]
  have b4094 : -9223372036854775808 ≤ v4092 ∧ v4092 ≤ 9223372036854775807 := by
    rw [e4093]
    exact wL_and _ _
  refine wl_of hX hb cL_1552 (rw_lor (pc' := 1553) rfl ?_)
  obtain ⟨v4095, e4096⟩ : ∃ x : Int, x = wl_or v4087 v4092 := ⟨_, rfl⟩
  rw [← e4096]
  have b4097 : -9223372036854775808 ≤ v4095 ∧ v4095 ≤ 9223372036854775807 := by
    rw [e4096]
    exact wL_or _ _
  obtain ⟨B, tc, tm, cu, dr, C8, e8, d8, n8, g8, e0, gtc, htc, em, gtm, htm, ecu, gcu, edr, gdr, hcu, hdr, hdec, hded, hsp, hC1, hC2, hcu8, hrb8, hcg8, hmn8, hE, hZ, hn8, hXA, hV8, hSG, -⟩ := hXI
  have hN3 := RB_n3 hrb8
  have hE13 : ∀ h : Nat, h < 24 → 0 ≤ e8 13 h ∧ e8 13 h ≤ 100 := fun k hk => by
    obtain ⟨s, h1, h2, h3⟩ := hcu8.1.2.2.1
    exact ⟨(h3 k hk).1, (h3 k hk).2.1⟩
  have hXW := hXA.1
  have hXN := hXA.2
  have hE0 : e8 0 3 = d8 0 3 ∧ e8 0 0 = d8 0 0 := by
    have h := hE 0 (by decide)
    exact ⟨congrFun h 3, congrFun h 0⟩
  have u4098 := CU_k hcu8
  have h4099 : CY T H cu (d8 0 3) g8 (H cu 17) := ⟨hcg8, rfl⟩
  have h4100 : RY T H m (d8 0 3) g8 (H m 32) := ⟨hmn8, rfl⟩
  obtain ⟨t9, ht9⟩ : ∃ t : Int, t = H x 9 := ⟨_, rfl⟩
  refine wl_of hX hb cL_1553 (xc_V (pc' := 1556) (r := x) (as := [vL v4095]) (st := []) (lm_11_215) rfl rfl (Nat.le_of_ble_eq_true rfl) hW gx sh_1 (by decide) rfl (by decide) (u_161 (e := e8) (d := d8) (n := n8) (nY := ((d8 0 3))) (gY := g8) (cY := ((H cu 17))) hW gx ⟨b4097.1, b4097.2⟩ ecu gcu (by omega) (by omega) (by omega) hcu8 h4099 hcu) (fun R4101 T4102 H4103 p4104 => ?_))
  obtain ⟨e4105, w4107, f4108, z4109, e4106, b4110, p4111⟩ := p4104
  subst e4105
  subst e4106
  rcases p4111 with ⟨a4112, a4113, a4114, a4115, a4116⟩ | ⟨a4117, a4118, a4119⟩
  · show WL _ _ _ _ 1556 [(4, vI i), (3, .ref o), (2, .ref m), (1, .ref x), (0, .ref 0)] [vI z4109] _ H4103
    refine wl_of hX hb cL_1556 (rw_pop (pc' := 1557) rfl rfl ?_)
    refine wl_of hX hb cL_1557 (rw_aload_n (pc' := 1558) (v := .ref m) rfl rfl rfl ?_)
    refine wl_of hX hb cL_1558 (rw_aload_n (pc' := 1559) (v := .ref 0) rfl rfl rfl ?_)
    refine wl_of hX hb cL_1559 (rw_iload (pc' := 1561) (z := i) rfl rfl ?_)
    refine wl_of hX hb cL_1561 (rw_iconst (pc' := 1562) rfl ?_)
    refine wl_of hX hb cL_1562 (rw_iadd (pc' := 1563) rfl ?_)
    have k4122 : H4103 0 ((i + 1).toNat) = H 0 ((i + 1).toNat) := (f4108 0 ((i + 1).toNat) _ g0 (wmem_s rfl))
    refine wl_of hX hb cL_1563 (xa_I (so := 0) (pc' := 1564) (a := 0) w4107 g0 (wsh_s _) (by omega) (wty_s _ _) (by omega) (by omega) rfl (fun b4120 b4121 => ?_))
    refine wl_of hX hb cL_1564 (rw_i2l (pc' := 1565) rfl ⟨by omega, by omega⟩ ?_)
    refine wl_of hX hb cL_1565 (rw_bipush (pc' := 1567) (z := 32) rfl (by decide) ?_)
    refine wl_of hX hb cL_1567 (rw_lshl (pc' := 1568) rfl ?_)
    obtain ⟨v4123, e4124⟩ : ∃ x : Int, x = wl_shl (H4103 0 ((i + 1).toNat)) 32 := ⟨_, rfl⟩
    rw [← e4124]
    have b4125 : -9223372036854775808 ≤ v4123 ∧ v4123 ≤ 9223372036854775807 := by
      rw [e4124]
      exact wL_shl _ _
    refine wl_of hX hb cL_1568 (rw_aload_n (pc' := 1569) (v := .ref 0) rfl rfl rfl ?_)
    refine wl_of hX hb cL_1569 (rw_iload (pc' := 1571) (z := i) rfl rfl ?_)
    refine wl_of hX hb cL_1571 (rw_iconst (pc' := 1572) rfl ?_)
    refine wl_of hX hb cL_1572 (rw_iadd (pc' := 1573) rfl ?_)
    have k4128 : H4103 0 ((i + 2).toNat) = H 0 ((i + 2).toNat) := (f4108 0 ((i + 2).toNat) _ g0 (wmem_s rfl))
    refine wl_of hX hb cL_1573 (xa_I (so := 0) (pc' := 1574) (a := 0) w4107 g0 (wsh_s _) (by omega) (wty_s _ _) (by omega) (by omega) rfl (fun b4126 b4127 => ?_))
    refine wl_of hX hb cL_1574 (rw_i2l (pc' := 1575) rfl ⟨by omega, by omega⟩ ?_)
    refine wl_of hX hb cL_1575 (rw_ldc2 (pc' := 1578) (z := 4294967295) rfl rfl rfl ?_)
    refine wl_of hX hb cL_1578 (rw_land (pc' := 1579) rfl ?_)
    obtain ⟨v4129, e4130⟩ : ∃ x : Int, x = wl_and (H4103 0 ((i + 2).toNat)) 4294967295 := ⟨_, rfl⟩
    rw [← e4130]
    have b4131 : -9223372036854775808 ≤ v4129 ∧ v4129 ≤ 9223372036854775807 := by
      rw [e4130]
      exact wL_and _ _
    refine wl_of hX hb cL_1579 (rw_lor (pc' := 1580) rfl ?_)
    obtain ⟨v4132, e4133⟩ : ∃ x : Int, x = wl_or v4123 v4129 := ⟨_, rfl⟩
    rw [← e4133]
    have b4134 : -9223372036854775808 ≤ v4132 ∧ v4132 ≤ 9223372036854775807 := by
      rw [e4133]
      exact wL_or _ _
    have k4135 : wKI H4103 m = wKI H m := (wKI_fr hW gm f4108 rfl)
    have k4136 : H4103 x 9 = H x 9 := (f4108 x 9 _ gx rfl)
    have k4137 : H4103 m 6 = H m 6 := (f4108 m 6 _ gm rfl)
    have k4138 : H4103 x 11 = H x 11 := (f4108 x 11 _ gx rfl)
    have k4139 : H4103 m 13 = H m 13 := (f4108 m 13 _ gm rfl)
    have k4140 : H4103 x 8 = H x 8 := (f4108 x 8 _ gx rfl)
    have k4141 : H4103 m 3 = H m 3 := (f4108 m 3 _ gm rfl)
    have rs9 : v4132 = v4095 := by
      rw [e4133, e4124, e4130, e4096, e4088, e4093, show H4103 0 ((i + 1).toNat) = H 0 ((i + 1).toNat) by omega, show H4103 0 ((i + 2).toNat) = H 0 ((i + 2).toNat) by omega]
    rw [rs9]
    have h4142 : RB T H4103 m e8 d8 := (RB_fr hW gm f4108 rfl hrb8)
    have h4143 : RY T H4103 m (d8 0 3) g8 (H m 32) := (RY_fr hW gm f4108 rfl h4100)
    refine wl_of hX hb cL_1580 (xc_V (pc' := 1583) (r := m) (as := [vL v4095]) (st := []) (lm_11_219) rfl rfl (Nat.le_of_ble_eq_true rfl) w4107 gm sh_42 (by decide) rfl (by decide) (u_292 (e := e8) (d := d8) (nY := ((d8 0 3))) (gY := g8) (cY := ((H m 32))) w4107 gm ⟨b4097.1, b4097.2⟩ (by omega) h4142 h4143) (fun R4144 T4145 H4146 p4147 => ?_))
    obtain ⟨e4148, w4150, f4151, z4152, e4149, b4153, p4154⟩ := p4147
    subst e4148
    subst e4149
    rcases p4154 with ⟨a4155, a4156, a4157, a4158⟩ | ⟨a4159, a4160, a4161⟩
    · show WL _ _ _ _ 1583 [(4, vI i), (3, .ref o), (2, .ref m), (1, .ref x), (0, .ref 0)] [vI z4152] _ H4146
      refine wl_of hX hb cL_1583 (rw_pop (pc' := 1584) rfl rfl ?_)
      refine wl_of hX hb cL_1584 (rw_goto (p1 := 1653) (by decide) ?_)
      have k4162 : wKI H4146 m = wKI H4103 m := (wKI_fr w4107 gm f4151 rfl)
      have k4163 : H4146 x 9 = H4103 x 9 := (f4151 x 9 _ gx rfl)
      have k4164 : H4146 m 6 = H4103 m 6 := (f4151 m 6 _ gm rfl)
      have k4165 : H4146 x 11 = H4103 x 11 := (f4151 x 11 _ gx rfl)
      have k4166 : H4146 m 13 = H4103 m 13 := (f4151 m 13 _ gm rfl)
      have k4167 : H4146 x 8 = H4103 x 8 := (f4151 x 8 _ gx rfl)
      have k4168 : H4146 m 3 = H4103 m 3 := (f4151 m 3 _ gm rfl)
      have k4169 : H4146 x 0 = H x 0 := ((f4151 x 0 _ gx rfl).trans (f4108 x 0 _ gx rfl))
      have q4170 : H4146 x 0 = (tc : Int) := k4169.trans e0
      have k4171 : H4146 m 5 = H m 5 := ((f4151 m 5 _ gm rfl).trans (f4108 m 5 _ gm rfl))
      have q4172 : H4146 m 5 = (tm : Int) := k4171.trans em
      have k4173 : H4146 x 6 = H x 6 := ((f4151 x 6 _ gx rfl).trans (f4108 x 6 _ gx rfl))
      have q4174 : H4146 x 6 = (cu : Int) := k4173.trans ecu
      have k4175 : H4146 x 7 = H x 7 := ((f4151 x 7 _ gx rfl).trans (f4108 x 7 _ gx rfl))
      have q4176 : H4146 x 7 = (dr : Int) := k4175.trans edr
      have h4177 : TP T H4146 tc B := (TP_fr w4107 gtc f4151 rfl (TP_fr hW gtc f4108 rfl htc))
      have h4178 : TM T H4146 tm B := (TM_fr w4107 gtm f4151 rfl (TM_fr hW gtm f4108 rfl htm))
      have h4179 : DD T H4146 cu  := (DD_fr w4107 gcu f4151 rfl (DD_fr hW gcu f4108 rfl hcu))
      have h4180 : DD T H4146 dr  := (DD_fr w4107 gdr f4151 rfl (DD_fr hW gdr f4108 rfl hdr))
      have h4181 : DE T H4146 cu  := (DE_fr w4107 gcu f4151 rfl (DE_fr hW gcu f4108 rfl hdec))
      have h4182 : DE T H4146 dr  := (DE_fr w4107 gdr f4151 rfl (DE_fr hW gdr f4108 rfl hded))
      have h4183 : SP T H4146 x C8 := (SP_fr w4107 gx f4151 rfl (SP_fr hW gx f4108 rfl hsp))
      have h4184 : CU T H4146 cu e8 d8 n8 := (CU_fr w4107 gcu f4151 rfl (CU_fr hW gcu f4108 rfl hcu8))
      have h4185 : CY T H4146 cu ((d8 0 3)) (xdg d8 v4095) (wdv (d8 0 3).toNat v4095) := (CY_fr w4107 gcu f4151 rfl a4116)
      have h4186 : RB T H4146 m e8 d8 := (RB_fr w4107 gm f4151 rfl h4142)
      exact WL.loc hX (by simp) (next T H4146 ⟨⟨w4150, g0, gx, gm, go, by omega, by omega⟩, ⟨_, tc, tm, cu, dr, _, _, _, _, _, q4170, gtc, h4177, q4172, gtm, h4178, q4174, gcu, q4176, gdr, h4179, h4180, h4181, h4182, h4183, hC1, hC2, h4184, h4186, (h4185).1, (a4158).1, hE, hZ, (by omega), (by assumption), (by omega), (by first | assumption | exact SG_0), gm⟩, by omega, by omega⟩ (by omega) (by omega))
    · show WL _ _ _ _ 1583 [(4, vI i), (3, .ref o), (2, .ref m), (1, .ref x), (0, .ref 0)] [vI z4152] _ H4146
      refine wl_of hX hb cL_1583 (rw_pop (pc' := 1584) rfl rfl ?_)
      refine wl_of hX hb cL_1584 (rw_goto (p1 := 1653) (by decide) ?_)
      have k4187 : wKI H4146 m = wKI H4103 m := (wKI_fr w4107 gm f4151 rfl)
      have k4188 : H4146 x 9 = H4103 x 9 := (f4151 x 9 _ gx rfl)
      have k4189 : H4146 m 6 = H4103 m 6 := (f4151 m 6 _ gm rfl)
      have k4190 : H4146 x 11 = H4103 x 11 := (f4151 x 11 _ gx rfl)
      have k4191 : H4146 m 13 = H4103 m 13 := (f4151 m 13 _ gm rfl)
      have k4192 : H4146 x 8 = H4103 x 8 := (f4151 x 8 _ gx rfl)
      have k4193 : H4146 m 3 = H4103 m 3 := (f4151 m 3 _ gm rfl)
      have k4194 : H4146 x 0 = H x 0 := ((f4151 x 0 _ gx rfl).trans (f4108 x 0 _ gx rfl))
      have q4195 : H4146 x 0 = (tc : Int) := k4194.trans e0
      have k4196 : H4146 m 5 = H m 5 := ((f4151 m 5 _ gm rfl).trans (f4108 m 5 _ gm rfl))
      have q4197 : H4146 m 5 = (tm : Int) := k4196.trans em
      have k4198 : H4146 x 6 = H x 6 := ((f4151 x 6 _ gx rfl).trans (f4108 x 6 _ gx rfl))
      have q4199 : H4146 x 6 = (cu : Int) := k4198.trans ecu
      have k4200 : H4146 x 7 = H x 7 := ((f4151 x 7 _ gx rfl).trans (f4108 x 7 _ gx rfl))
      have q4201 : H4146 x 7 = (dr : Int) := k4200.trans edr
      have h4202 : TP T H4146 tc B := (TP_fr w4107 gtc f4151 rfl (TP_fr hW gtc f4108 rfl htc))
      have h4203 : TM T H4146 tm B := (TM_fr w4107 gtm f4151 rfl (TM_fr hW gtm f4108 rfl htm))
      have h4204 : DD T H4146 cu  := (DD_fr w4107 gcu f4151 rfl (DD_fr hW gcu f4108 rfl hcu))
      have h4205 : DD T H4146 dr  := (DD_fr w4107 gdr f4151 rfl (DD_fr hW gdr f4108 rfl hdr))
      have h4206 : DE T H4146 cu  := (DE_fr w4107 gcu f4151 rfl (DE_fr hW gcu f4108 rfl hdec))
      have h4207 : DE T H4146 dr  := (DE_fr w4107 gdr f4151 rfl (DE_fr hW gdr f4108 rfl hded))
      have h4208 : SP T H4146 x C8 := (SP_fr w4107 gx f4151 rfl (SP_fr hW gx f4108 rfl hsp))
      have h4209 : CU T H4146 cu e8 d8 n8 := (CU_fr w4107 gcu f4151 rfl (CU_fr hW gcu f4108 rfl hcu8))
      have h4210 : CY T H4146 cu ((d8 0 3)) (xdg d8 v4095) (wdv (d8 0 3).toNat v4095) := (CY_fr w4107 gcu f4151 rfl a4116)
      exfalso
      omega
  · show WL _ _ _ _ 1556 [(4, vI i), (3, .ref o), (2, .ref m), (1, .ref x), (0, .ref 0)] [vI z4109] _ H4103
    refine wl_of hX hb cL_1556 (rw_pop (pc' := 1557) rfl rfl ?_)
    refine wl_of hX hb cL_1557 (rw_aload_n (pc' := 1558) (v := .ref m) rfl rfl rfl ?_)
    refine wl_of hX hb cL_1558 (rw_aload_n (pc' := 1559) (v := .ref 0) rfl rfl rfl ?_)
    refine wl_of hX hb cL_1559 (rw_iload (pc' := 1561) (z := i) rfl rfl ?_)
    refine wl_of hX hb cL_1561 (rw_iconst (pc' := 1562) rfl ?_)
    refine wl_of hX hb cL_1562 (rw_iadd (pc' := 1563) rfl ?_)
    have k4213 : H4103 0 ((i + 1).toNat) = H 0 ((i + 1).toNat) := (f4108 0 ((i + 1).toNat) _ g0 (wmem_s rfl))
    refine wl_of hX hb cL_1563 (xa_I (so := 0) (pc' := 1564) (a := 0) w4107 g0 (wsh_s _) (by omega) (wty_s _ _) (by omega) (by omega) rfl (fun b4211 b4212 => ?_))
    refine wl_of hX hb cL_1564 (rw_i2l (pc' := 1565) rfl ⟨by omega, by omega⟩ ?_)
    refine wl_of hX hb cL_1565 (rw_bipush (pc' := 1567) (z := 32) rfl (by decide) ?_)
    refine wl_of hX hb cL_1567 (rw_lshl (pc' := 1568) rfl ?_)
    obtain ⟨v4214, e4215⟩ : ∃ x : Int, x = wl_shl (H4103 0 ((i + 1).toNat)) 32 := ⟨_, rfl⟩
    rw [← e4215]
    have b4216 : -9223372036854775808 ≤ v4214 ∧ v4214 ≤ 9223372036854775807 := by
      rw [e4215]
      exact wL_shl _ _
    refine wl_of hX hb cL_1568 (rw_aload_n (pc' := 1569) (v := .ref 0) rfl rfl rfl ?_)
    refine wl_of hX hb cL_1569 (rw_iload (pc' := 1571) (z := i) rfl rfl ?_)
    refine wl_of hX hb cL_1571 (rw_iconst (pc' := 1572) rfl ?_)
    refine wl_of hX hb cL_1572 (rw_iadd (pc' := 1573) rfl ?_)
    have k4219 : H4103 0 ((i + 2).toNat) = H 0 ((i + 2).toNat) := (f4108 0 ((i + 2).toNat) _ g0 (wmem_s rfl))
    refine wl_of hX hb cL_1573 (xa_I (so := 0) (pc' := 1574) (a := 0) w4107 g0 (wsh_s _) (by omega) (wty_s _ _) (by omega) (by omega) rfl (fun b4217 b4218 => ?_))
    refine wl_of hX hb cL_1574 (rw_i2l (pc' := 1575) rfl ⟨by omega, by omega⟩ ?_)
    refine wl_of hX hb cL_1575 (rw_ldc2 (pc' := 1578) (z := 4294967295) rfl rfl rfl ?_)
    refine wl_of hX hb cL_1578 (rw_land (pc' := 1579) rfl ?_)
    obtain ⟨v4220, e4221⟩ : ∃ x : Int, x = wl_and (H4103 0 ((i + 2).toNat)) 4294967295 := ⟨_, rfl⟩
    rw [← e4221]
    have b4222 : -9223372036854775808 ≤ v4220 ∧ v4220 ≤ 9223372036854775807 := by
      rw [e4221]
      exact wL_and _ _
    refine wl_of hX hb cL_1579 (rw_lor (pc' := 1580) rfl ?_)
    obtain ⟨v4223, e4224⟩ : ∃ x : Int, x = wl_or v4214 v4220 := ⟨_, rfl⟩
    rw [← e4224]
    have b4225 : -9223372036854775808 ≤ v4223 ∧ v4223 ≤ 9223372036854775807 := by
      rw [e4224]
      exact wL_or _ _
    have k4226 : wKI H4103 m = wKI H m := (wKI_fr hW gm f4108 rfl)
    have k4227 : H4103 x 9 = H x 9 := (f4108 x 9 _ gx rfl)
    have k4228 : H4103 m 6 = H m 6 := (f4108 m 6 _ gm rfl)
    have k4229 : H4103 x 11 = H x 11 := (f4108 x 11 _ gx rfl)
    have k4230 : H4103 m 13 = H m 13 := (f4108 m 13 _ gm rfl)
    have k4231 : H4103 x 8 = H x 8 := (f4108 x 8 _ gx rfl)
    have k4232 : H4103 m 3 = H m 3 := (f4108 m 3 _ gm rfl)
    have rs9 : v4223 = v4095 := by
      rw [e4224, e4215, e4221, e4096, e4088, e4093, show H4103 0 ((i + 1).toNat) = H 0 ((i + 1).toNat) by omega, show H4103 0 ((i + 2).toNat) = H 0 ((i + 2).toNat) by omega]
    rw [rs9]
    have h4233 : RB T H4103 m e8 d8 := (RB_fr hW gm f4108 rfl hrb8)
    have h4234 : RY T H4103 m (d8 0 3) g8 (H m 32) := (RY_fr hW gm f4108 rfl h4100)
    refine wl_of hX hb cL_1580 (xc_V (pc' := 1583) (r := m) (as := [vL v4095]) (st := []) (lm_11_219) rfl rfl (Nat.le_of_ble_eq_true rfl) w4107 gm sh_42 (by decide) rfl (by decide) (u_292 (e := e8) (d := d8) (nY := ((d8 0 3))) (gY := g8) (cY := ((H m 32))) w4107 gm ⟨b4097.1, b4097.2⟩ (by omega) h4233 h4234) (fun R4235 T4236 H4237 p4238 => ?_))
    obtain ⟨e4239, w4241, f4242, z4243, e4240, b4244, p4245⟩ := p4238
    subst e4239
    subst e4240
    rcases p4245 with ⟨a4246, a4247, a4248, a4249⟩ | ⟨a4250, a4251, a4252⟩
    · show WL _ _ _ _ 1583 [(4, vI i), (3, .ref o), (2, .ref m), (1, .ref x), (0, .ref 0)] [vI z4243] _ H4237
      refine wl_of hX hb cL_1583 (rw_pop (pc' := 1584) rfl rfl ?_)
      refine wl_of hX hb cL_1584 (rw_goto (p1 := 1653) (by decide) ?_)
      have k4253 : wKI H4237 m = wKI H4103 m := (wKI_fr w4107 gm f4242 rfl)
      have k4254 : H4237 x 9 = H4103 x 9 := (f4242 x 9 _ gx rfl)
      have k4255 : H4237 m 6 = H4103 m 6 := (f4242 m 6 _ gm rfl)
      have k4256 : H4237 x 11 = H4103 x 11 := (f4242 x 11 _ gx rfl)
      have k4257 : H4237 m 13 = H4103 m 13 := (f4242 m 13 _ gm rfl)
      have k4258 : H4237 x 8 = H4103 x 8 := (f4242 x 8 _ gx rfl)
      have k4259 : H4237 m 3 = H4103 m 3 := (f4242 m 3 _ gm rfl)
      have k4260 : H4237 x 0 = H x 0 := ((f4242 x 0 _ gx rfl).trans (f4108 x 0 _ gx rfl))
      have q4261 : H4237 x 0 = (tc : Int) := k4260.trans e0
      have k4262 : H4237 m 5 = H m 5 := ((f4242 m 5 _ gm rfl).trans (f4108 m 5 _ gm rfl))
      have q4263 : H4237 m 5 = (tm : Int) := k4262.trans em
      have k4264 : H4237 x 6 = H x 6 := ((f4242 x 6 _ gx rfl).trans (f4108 x 6 _ gx rfl))
      have q4265 : H4237 x 6 = (cu : Int) := k4264.trans ecu
      have k4266 : H4237 x 7 = H x 7 := ((f4242 x 7 _ gx rfl).trans (f4108 x 7 _ gx rfl))
      have q4267 : H4237 x 7 = (dr : Int) := k4266.trans edr
      have h4268 : TP T H4237 tc B := (TP_fr w4107 gtc f4242 rfl (TP_fr hW gtc f4108 rfl htc))
      have h4269 : TM T H4237 tm B := (TM_fr w4107 gtm f4242 rfl (TM_fr hW gtm f4108 rfl htm))
      have h4270 : DD T H4237 cu  := (DD_fr w4107 gcu f4242 rfl (DD_fr hW gcu f4108 rfl hcu))
      have h4271 : DD T H4237 dr  := (DD_fr w4107 gdr f4242 rfl (DD_fr hW gdr f4108 rfl hdr))
      have h4272 : DE T H4237 cu  := (DE_fr w4107 gcu f4242 rfl (DE_fr hW gcu f4108 rfl hdec))
      have h4273 : DE T H4237 dr  := (DE_fr w4107 gdr f4242 rfl (DE_fr hW gdr f4108 rfl hded))
      have h4274 : SP T H4237 x C8 := (SP_fr w4107 gx f4242 rfl (SP_fr hW gx f4108 rfl hsp))
      have h4275 : CU T H4237 cu e8 d8 n8 := (CU_fr w4107 gcu f4242 rfl (CU_fr hW gcu f4108 rfl hcu8))
      have h4276 : CY T H4237 cu ((d8 0 3)) g8 ((H cu 17)) := (CY_fr w4107 gcu f4242 rfl a4119)
      exfalso
      omega
    · show WL _ _ _ _ 1583 [(4, vI i), (3, .ref o), (2, .ref m), (1, .ref x), (0, .ref 0)] [vI z4243] _ H4237
      refine wl_of hX hb cL_1583 (rw_pop (pc' := 1584) rfl rfl ?_)
      refine wl_of hX hb cL_1584 (rw_goto (p1 := 1653) (by decide) ?_)
      have k4277 : wKI H4237 m = wKI H4103 m := (wKI_fr w4107 gm f4242 rfl)
      have k4278 : H4237 x 9 = H4103 x 9 := (f4242 x 9 _ gx rfl)
      have k4279 : H4237 m 6 = H4103 m 6 := (f4242 m 6 _ gm rfl)
      have k4280 : H4237 x 11 = H4103 x 11 := (f4242 x 11 _ gx rfl)
      have k4281 : H4237 m 13 = H4103 m 13 := (f4242 m 13 _ gm rfl)
      have k4282 : H4237 x 8 = H4103 x 8 := (f4242 x 8 _ gx rfl)
      have k4283 : H4237 m 3 = H4103 m 3 := (f4242 m 3 _ gm rfl)
      have k4284 : H4237 x 0 = H x 0 := ((f4242 x 0 _ gx rfl).trans (f4108 x 0 _ gx rfl))
      have q4285 : H4237 x 0 = (tc : Int) := k4284.trans e0
      have k4286 : H4237 m 5 = H m 5 := ((f4242 m 5 _ gm rfl).trans (f4108 m 5 _ gm rfl))
      have q4287 : H4237 m 5 = (tm : Int) := k4286.trans em
      have k4288 : H4237 x 6 = H x 6 := ((f4242 x 6 _ gx rfl).trans (f4108 x 6 _ gx rfl))
      have q4289 : H4237 x 6 = (cu : Int) := k4288.trans ecu
      have k4290 : H4237 x 7 = H x 7 := ((f4242 x 7 _ gx rfl).trans (f4108 x 7 _ gx rfl))
      have q4291 : H4237 x 7 = (dr : Int) := k4290.trans edr
      have h4292 : TP T H4237 tc B := (TP_fr w4107 gtc f4242 rfl (TP_fr hW gtc f4108 rfl htc))
      have h4293 : TM T H4237 tm B := (TM_fr w4107 gtm f4242 rfl (TM_fr hW gtm f4108 rfl htm))
      have h4294 : DD T H4237 cu  := (DD_fr w4107 gcu f4242 rfl (DD_fr hW gcu f4108 rfl hcu))
      have h4295 : DD T H4237 dr  := (DD_fr w4107 gdr f4242 rfl (DD_fr hW gdr f4108 rfl hdr))
      have h4296 : DE T H4237 cu  := (DE_fr w4107 gcu f4242 rfl (DE_fr hW gcu f4108 rfl hdec))
      have h4297 : DE T H4237 dr  := (DE_fr w4107 gdr f4242 rfl (DE_fr hW gdr f4108 rfl hded))
      have h4298 : SP T H4237 x C8 := (SP_fr w4107 gx f4242 rfl (SP_fr hW gx f4108 rfl hsp))
      have h4299 : CU T H4237 cu e8 d8 n8 := (CU_fr w4107 gcu f4242 rfl (CU_fr hW gcu f4108 rfl hcu8))
      have h4300 : CY T H4237 cu ((d8 0 3)) g8 ((H cu 17)) := (CY_fr w4107 gcu f4242 rfl a4119)
      have h4301 : RB T H4237 m e8 d8 := (RB_fr w4107 gm f4242 rfl h4233)
      exact WL.loc hX (by simp) (next T H4237 ⟨⟨w4241, g0, gx, gm, go, by omega, by omega⟩, ⟨_, tc, tm, cu, dr, _, _, _, _, _, q4285, gtc, h4292, q4287, gtm, h4293, q4289, gcu, q4291, gdr, h4294, h4295, h4296, h4297, h4298, hC1, hC2, h4299, h4301, (h4300).1, (a4252).1, hE, hZ, (by omega), (by assumption), (by omega), (by first | assumption | exact SG_0), gm⟩, by omega, by omega⟩ (by omega) (by omega))
set_option maxHeartbeats 4000000 in
theorem wl_c47 {kt : Nat → Option mc_E} {CB SB : Nat} {X : mc_S → Prop} {T : wq_T} {H : wq_H} {Len x m o : Nat} {i : Int} (hX : wlX kt CB SB X) (hb : T.2.1 ≤ CB ∧ T.2.2.1 ≤ SB) (hI : wlJ Len x m o T H) (hL : Len ≤ 3072) (hi : 0 ≤ i ∧ i + 6 ≤ Len) (hb2 : T.2.1 + 20 ≤ CB ∧ T.2.2.1 + 500 ≤ SB) (hled : ∀ {z : Int}, wI z → T.2.1 ≤ CB ∧ T.2.2.1 ≤ SB → wlJ Len x m o T H → (∀ (z' : Int), wI z' → ∀ (T' : wq_T) (H' : wq_H), wlJ Len x m o T' H' → T'.2.1 ≤ T.2.1 + 20 → T'.2.2.1 ≤ T.2.2.1 + 500 → WL kt CB SB X 1598 (wlL i x m o) [vI z'] T' H') → WL kt CB SB X 1595 (wlL i x m o) [.ref o, vI z, .ref x] T H) (next : ∀ T' H', wlJ Len x m o T' H' → T'.2.1 ≤ T.2.1 + 20 → T'.2.2.1 ≤ T.2.2.1 + 500 → WL kt CB SB X 1653 (wlL i x m o) [] T' H') : WL kt CB SB X 1587 (wlL i x m o) [] T H := by
  obtain ⟨⟨hW, g0, gx, gm, go, hK, hr⟩, hXI, hY1, hY2⟩ := hI
  refine wl_of hX hb cL_1587 (rw_aload_n (pc' := 1588) (v := .ref x) rfl rfl rfl ?_)
  refine wl_of hX hb cL_1588 (rw_aload_n (pc' := 1589) (v := .ref 0) rfl rfl rfl ?_)
  refine wl_of hX hb cL_1589 (rw_iload (pc' := 1591) (z := i) rfl rfl ?_)
  refine wl_of hX hb cL_1591 (rw_iconst (pc' := 1592) rfl ?_)
  refine wl_of hX hb cL_1592 (rw_iadd (pc' := 1593) rfl ?_)
  refine wl_of hX hb cL_1593 (xa_I (so := 0) (pc' := 1594) (a := 0) hW g0 (wsh_s _) (by omega) (wty_s _ _) (by omega) (by omega) rfl (fun b4302 b4303 => ?_))
  refine wl_of hX hb cL_1594 (rw_aload_n (pc' := 1595) (v := .ref o) rfl rfl rfl ?_)
  refine hled ⟨by omega, by omega⟩ hb ⟨⟨hW, g0, gx, gm, go, by omega, by omega⟩, hXI, by omega, by omega⟩ (fun z9 b9 T9 H9 hI9 n9 s9 => ?_)
  obtain ⟨⟨w9, g0, gx, gm, go, hK, hr⟩, hXI, hY1, hY2⟩ := hI9
  have hb : T9.2.1 ≤ CB ∧ T9.2.2.1 ≤ SB := ⟨by omega, by omega⟩
  refine wl_of hX hb cL_1598 (rw_istore (pc' := 1600) (z := z9) (L' := [(5, vI z9), (4, vI i), (3, .ref o), (2, .ref m), (1, .ref x), (0, .ref 0)]) rfl rfl rfl ?_)
  refine wl_of hX hb cL_1600 (rw_aload_n (pc' := 1601) (v := .ref m) rfl rfl rfl ?_)
  refine wl_of hX hb cL_1601 (rw_aload_n (pc' := 1602) (v := .ref 0) rfl rfl rfl ?_)
  refine wl_of hX hb cL_1602 (rw_iload (pc' := 1604) (z := i) rfl rfl ?_)
  refine wl_of hX hb cL_1604 (rw_iconst (pc' := 1605) rfl ?_)
  refine wl_of hX hb cL_1605 (rw_iadd (pc' := 1606) rfl ?_)
  refine wl_of hX hb cL_1606 (xa_I (so := 0) (pc' := 1607) (a := 0) w9 g0 (wsh_s _) (by omega) (wty_s _ _) (by omega) (by omega) rfl (fun b4304 b4305 => ?_))
  refine wl_of hX hb cL_1607 (xc_V (pc' := 1610) (r := m) (as := [vI (H9 0 ((i + 1).toNat))]) (st := []) (lm_11_225) rfl rfl (Nat.le_of_ble_eq_true rfl) w9 gm sh_42 (by decide) rfl (by decide) (s_293 w9 gm ⟨by omega, by omega⟩ (by omega)) (fun R4306 T4307 H4308 p4309 => ?_))
  obtain ⟨e4310, w4312, f4313, z4315, e4311, b4316, p4314⟩ := p4309
  subst e4310
  subst e4311
  show WL _ _ _ _ 1610 [(5, vI z9), (4, vI i), (3, .ref o), (2, .ref m), (1, .ref x), (0, .ref 0)] [vI z4315] _ H4308
  refine wl_of hX hb cL_1610 (rw_istore (pc' := 1612) (z := z4315) (L' := [(6, vI z4315), (5, vI z9), (4, vI i), (3, .ref o), (2, .ref m), (1, .ref x), (0, .ref 0)]) rfl rfl rfl ?_)
  refine wl_of hX hb cL_1612 (rw_goto (p1 := 1653) (by decide) ?_)
  have k4317 : H4308 x 9 = H9 x 9 := (f4313 x 9 _ gx rfl)
  have k4318 : H4308 m 6 = H9 m 6 := (f4313 m 6 _ gm rfl)
  have k4319 : H4308 x 11 = H9 x 11 := (f4313 x 11 _ gx rfl)
  have k4320 : H4308 m 13 = H9 m 13 := (f4313 m 13 _ gm rfl)
  have k4321 : H4308 x 8 = H9 x 8 := (f4313 x 8 _ gx rfl)
  have k4322 : H4308 m 3 = H9 m 3 := (f4313 m 3 _ gm rfl)
  have h4323 : XI T9 H4308 x m := (XI_fr w9 gx f4313 rfl hXI)
  exact WL.loc hX (by simp) (next T9 H4308 ⟨⟨w4312, g0, gx, gm, go, by omega, by omega⟩, h4323, by omega, by omega⟩ (by omega) (by omega))
set_option maxHeartbeats 4000000 in
theorem wl_c48 {kt : Nat → Option mc_E} {CB SB : Nat} {X : mc_S → Prop} {T : wq_T} {H : wq_H} {Len x m o : Nat} {i : Int} (hX : wlX kt CB SB X) (hb : T.2.1 ≤ CB ∧ T.2.2.1 ≤ SB) (hI : wlJ Len x m o T H) (hL : Len ≤ 3072) (hi : 0 ≤ i ∧ i + 6 ≤ Len) (hb2 : T.2.1 + 20 ≤ CB ∧ T.2.2.1 + 500 ≤ SB)  (next : ∀ T' H', wlJ Len x m o T' H' → T'.2.1 ≤ T.2.1 + 20 → T'.2.2.1 ≤ T.2.2.1 + 500 → WL kt CB SB X 1653 (wlL i x m o) [] T' H') : WL kt CB SB X 1615 (wlL i x m o) [] T H := by
  obtain ⟨⟨hW, g0, gx, gm, go, hK, hr⟩, hXI, hY1, hY2⟩ := hI
  refine wl_of hX hb cL_1615 (rw_aload_n (pc' := 1616) (v := .ref x) rfl rfl rfl ?_)
  refine wl_of hX hb cL_1616 (rw_aload_n (pc' := 1617) (v := .ref 0) rfl rfl rfl ?_)
  refine wl_of hX hb cL_1617 (rw_iload (pc' := 1619) (z := i) rfl rfl ?_)
  refine wl_of hX hb cL_1619 (rw_iconst (pc' := 1620) rfl ?_)
  refine wl_of hX hb cL_1620 (rw_iadd (pc' := 1621) rfl ?_)
  refine wl_of hX hb cL_1621 (xa_I (so := 0) (pc' := 1622) (a := 0) hW g0 (wsh_s _) (by omega) (wty_s _ _) (by omega) (by omega) rfl (fun b4324 b4325 => ?_))
  refine wl_of hX hb cL_1622 (xc_V (pc' := 1625) (r := x) (as := [vI (H 0 ((i + 1).toNat))]) (st := []) (lm_11_226) rfl rfl (Nat.le_of_ble_eq_true rfl) hW gx sh_1 (by decide) rfl (by decide) (s_164 hW gx ⟨by omega, by omega⟩) (fun R4326 T4327 H4328 p4329 => ?_))
  obtain ⟨e4330, e4332, z4333, e4331, b4334⟩ := p4329
  subst e4330
  subst e4331
  subst e4332
  show WL _ _ _ _ 1625 [(4, vI i), (3, .ref o), (2, .ref m), (1, .ref x), (0, .ref 0)] [vI z4333] _ H
  refine wl_of hX hb cL_1625 (rw_pop (pc' := 1626) rfl rfl ?_)
  refine wl_of hX hb cL_1626 (rw_aload_n (pc' := 1627) (v := .ref m) rfl rfl rfl ?_)
  refine wl_of hX hb cL_1627 (rw_aload_n (pc' := 1628) (v := .ref 0) rfl rfl rfl ?_)
  refine wl_of hX hb cL_1628 (rw_iload (pc' := 1630) (z := i) rfl rfl ?_)
  refine wl_of hX hb cL_1630 (rw_iconst (pc' := 1631) rfl ?_)
  refine wl_of hX hb cL_1631 (rw_iadd (pc' := 1632) rfl ?_)
  refine wl_of hX hb cL_1632 (xa_I (so := 0) (pc' := 1633) (a := 0) hW g0 (wsh_s _) (by omega) (wty_s _ _) (by omega) (by omega) rfl (fun b4335 b4336 => ?_))
  refine wl_of hX hb cL_1633 (xc_V (pc' := 1636) (r := m) (as := [vI (H 0 ((i + 1).toNat))]) (st := []) (lm_11_229) rfl rfl (Nat.le_of_ble_eq_true rfl) hW gm sh_42 (by decide) rfl (by decide) (s_294 hW gm ⟨by omega, by omega⟩ (by omega)) (fun R4337 T4338 H4339 p4340 => ?_))
  obtain ⟨e4341, w4343, f4344, z4346, e4342, b4347, p4345⟩ := p4340
  subst e4341
  subst e4342
  show WL _ _ _ _ 1636 [(4, vI i), (3, .ref o), (2, .ref m), (1, .ref x), (0, .ref 0)] [vI z4346] _ H4339
  refine wl_of hX hb cL_1636 (rw_pop (pc' := 1637) rfl rfl ?_)
  refine wl_of hX hb cL_1637 (rw_goto (p1 := 1653) (by decide) ?_)
  have k4348 : H4339 x 9 = H x 9 := (f4344 x 9 _ gx rfl)
  have k4349 : H4339 m 6 = H m 6 := (f4344 m 6 _ gm rfl)
  have k4350 : H4339 x 11 = H x 11 := (f4344 x 11 _ gx rfl)
  have k4351 : H4339 m 13 = H m 13 := (f4344 m 13 _ gm rfl)
  have k4352 : H4339 x 8 = H x 8 := (f4344 x 8 _ gx rfl)
  have k4353 : H4339 m 3 = H m 3 := (f4344 m 3 _ gm rfl)
  have h4354 : XI T H4339 x m := (XI_fr hW gx f4344 rfl hXI)
  exact WL.loc hX (by simp) (next T H4339 ⟨⟨w4343, g0, gx, gm, go, by omega, by omega⟩, h4354, by omega, by omega⟩ (by omega) (by omega))
set_option maxHeartbeats 4000000 in
theorem wl_c49 {kt : Nat → Option mc_E} {CB SB : Nat} {X : mc_S → Prop} {T : wq_T} {H : wq_H} {Len x m o : Nat} {i : Int} (hX : wlX kt CB SB X) (hb : T.2.1 ≤ CB ∧ T.2.2.1 ≤ SB) (hI : wlJ Len x m o T H) (hL : Len ≤ 3072) (hi : 0 ≤ i ∧ i + 6 ≤ Len) (hb2 : T.2.1 + 20 ≤ CB ∧ T.2.2.1 + 500 ≤ SB)  (next : ∀ T' H', wlJ Len x m o T' H' → T'.2.1 ≤ T.2.1 + 20 → T'.2.2.1 ≤ T.2.2.1 + 500 → WL kt CB SB X 1653 (wlL i x m o) [] T' H') : WL kt CB SB X 1640 (wlL i x m o) [] T H := by
  obtain ⟨⟨hW, g0, gx, gm, go, hK, hr⟩, hXI, hY1, hY2⟩ := hI
  refine wl_of hX hb cL_1640 (rw_aload_n (pc' := 1641) (v := .ref x) rfl rfl rfl ?_)
  refine wl_of hX hb cL_1641 (xc_V (pc' := 1644) (r := x) (as := []) (st := []) (lm_11_230) rfl rfl (Nat.le_of_ble_eq_true rfl) hW gx sh_1 (by decide) rfl (by decide) (s_165 hW gx) (fun R4355 T4356 H4357 p4358 => ?_))
  obtain ⟨e4359, e4361, z4362, e4360, b4363⟩ := p4358
  subst e4359
  subst e4360
  subst e4361
  show WL _ _ _ _ 1644 [(4, vI i), (3, .ref o), (2, .ref m), (1, .ref x), (0, .ref 0)] [vI z4362] _ H
  refine wl_of hX hb cL_1644 (rw_pop (pc' := 1645) rfl rfl ?_)
  refine wl_of hX hb cL_1645 (rw_aload_n (pc' := 1646) (v := .ref m) rfl rfl rfl ?_)
  refine wl_of hX hb cL_1646 (xc_V (pc' := 1649) (r := m) (as := []) (st := []) (lm_11_233) rfl rfl (Nat.le_of_ble_eq_true rfl) hW gm sh_42 (by decide) rfl (by decide) (s_295 hW gm (by omega)) (fun R4364 T4365 H4366 p4367 => ?_))
  obtain ⟨e4368, w4370, f4371, z4373, e4369, b4374, p4372⟩ := p4367
  subst e4368
  subst e4369
  show WL _ _ _ _ 1649 [(4, vI i), (3, .ref o), (2, .ref m), (1, .ref x), (0, .ref 0)] [vI z4373] _ H4366
  refine wl_of hX hb cL_1649 (rw_pop (pc' := 1650) rfl rfl ?_)
  refine wl_of hX hb cL_1650 (rw_goto (p1 := 1653) (by decide) ?_)
  have k4375 : H4366 x 9 = H x 9 := (f4371 x 9 _ gx rfl)
  have k4376 : H4366 m 6 = H m 6 := (f4371 m 6 _ gm rfl)
  have k4377 : H4366 x 11 = H x 11 := (f4371 x 11 _ gx rfl)
  have k4378 : H4366 m 13 = H m 13 := (f4371 m 13 _ gm rfl)
  have k4379 : H4366 x 8 = H x 8 := (f4371 x 8 _ gx rfl)
  have k4380 : H4366 m 3 = H m 3 := (f4371 m 3 _ gm rfl)
  have h4381 : XI T H4366 x m := (XI_fr hW gx f4371 rfl hXI)
  exact WL.loc hX (by simp) (next T H4366 ⟨⟨w4370, g0, gx, gm, go, by omega, by omega⟩, h4381, by omega, by omega⟩ (by omega) (by omega))
set_option maxHeartbeats 4000000 in
theorem wl_head {kt : Nat → Option mc_E} {CB SB : Nat} {X : mc_S → Prop} {T : wq_T} {H : wq_H} {Len x m o : Nat} {i : Int} (hX : wlX kt CB SB X) (hb : T.2.1 ≤ CB ∧ T.2.2.1 ≤ SB) (hI : wlJ Len x m o T H) (hL : Len ≤ 3072) (hi : 0 ≤ i ∧ i ≤ Len) (cases : ∀ t, t ∈ [256, 329, 354, 367, 380, 405, 454, 503, 516, 553, 578, 603, 616, 629, 642, 655, 668, 705, 718, 755, 792, 829, 882, 919, 944, 957, 994, 1019, 1056, 1109, 1162, 1175, 1200, 1225, 1250, 1263, 1316, 1329, 1342, 1367, 1404, 1429, 1454, 1467, 1504, 1517, 1530, 1587, 1615, 1640] → i + 6 ≤ Len → WL kt CB SB X t (wlL i x m o) [] T H) (next : i + 6 ≤ Len → WL kt CB SB X 1653 (wlL i x m o) [] T H) : WL kt CB SB X 23 (wlL i x m o) [] T H := by
  obtain ⟨⟨hW, g0, gx, gm, go, hK, hr⟩, hXI, hY1, hY2⟩ := hI
  refine wl_of hX hb cL_23 (rw_iload (pc' := 25) (z := i) rfl rfl ?_)
  refine wl_of hX hb cL_25 (rw_aload_n (pc' := 26) (v := .ref 0) rfl rfl rfl ?_)
  refine wl_of hX hb cL_26 (xa_N (pc' := 27) (a := 0) (n := Len) hW g0 (wsh_s _) (by decide) rfl ?_)
  refine wl_of hX hb cL_27 (rw_bipush (pc' := 29) (z := 6) rfl (by decide) ?_)
  refine wl_of hX hb cL_29 (rw_isub (pc' := 30) rfl ?_)
  refine wl_of hX hb cL_30 (rw_icmp_gt (p1 := 1659) (p2 := 33) (by decide) rfl ⟨by omega, by omega⟩ ⟨by omega, by omega⟩ (fun c4382 => ?_) (fun c4382 => ?_))
  · refine wl_of hX hb cL_1659 (rw_iconst (pc' := 1660) rfl ?_)
    exact WL.fin hX hb
  · refine wl_of hX hb cL_33 (rw_aload_n (pc' := 34) (v := .ref 0) rfl rfl rfl ?_)
    refine wl_of hX hb cL_34 (rw_iload (pc' := 36) (z := i) rfl rfl ?_)
    refine wl_of hX hb cL_36 (xa_I (so := 0) (pc' := 37) (a := 0) hW g0 (wsh_s _) (by omega) (wty_s _ _) (by omega) (by omega) rfl (fun b4383 b4384 => ?_))
    refine wl_of hX hb cL_37 (rw_bipush (pc' := 39) (z := 63) rfl (by decide) ?_)
    refine wl_of hX hb cL_39 (rw_iand (pc' := 40) rfl ?_)
    obtain ⟨v4385, e4386⟩ : ∃ x : Int, x = wq_and (H 0 (i.toNat)) 63 := ⟨_, rfl⟩
    rw [← e4386]
    have b4387 : 0 ≤ v4385 ∧ v4385 ≤ 63 := by
      rw [e4386]
      exact wq_and_b _ (by omega) (by omega)
    have c4388 : v4385 = 0 ∨ v4385 = 1 ∨ v4385 = 2 ∨ v4385 = 3 ∨ v4385 = 4 ∨ v4385 = 5 ∨ v4385 = 6 ∨ v4385 = 7 ∨ v4385 = 8 ∨ v4385 = 9 ∨ v4385 = 10 ∨ v4385 = 11 ∨ v4385 = 12 ∨ v4385 = 13 ∨ v4385 = 14 ∨ v4385 = 15 ∨ v4385 = 16 ∨ v4385 = 17 ∨ v4385 = 18 ∨ v4385 = 19 ∨ v4385 = 20 ∨ v4385 = 21 ∨ v4385 = 22 ∨ v4385 = 23 ∨ v4385 = 24 ∨ v4385 = 25 ∨ v4385 = 26 ∨ v4385 = 27 ∨ v4385 = 28 ∨ v4385 = 29 ∨ v4385 = 30 ∨ v4385 = 31 ∨ v4385 = 32 ∨ v4385 = 33 ∨ v4385 = 34 ∨ v4385 = 35 ∨ v4385 = 36 ∨ v4385 = 37 ∨ v4385 = 38 ∨ v4385 = 39 ∨ v4385 = 40 ∨ v4385 = 41 ∨ v4385 = 42 ∨ v4385 = 43 ∨ v4385 = 44 ∨ v4385 = 45 ∨ v4385 = 46 ∨ v4385 = 47 ∨ v4385 = 48 ∨ v4385 = 49 ∨ (v4385 < 0 ∨ 49 < v4385) := by omega
    rcases c4388 with c4388 | c4388 | c4388 | c4388 | c4388 | c4388 | c4388 | c4388 | c4388 | c4388 | c4388 | c4388 | c4388 | c4388 | c4388 | c4388 | c4388 | c4388 | c4388 | c4388 | c4388 | c4388 | c4388 | c4388 | c4388 | c4388 | c4388 | c4388 | c4388 | c4388 | c4388 | c4388 | c4388 | c4388 | c4388 | c4388 | c4388 | c4388 | c4388 | c4388 | c4388 | c4388 | c4388 | c4388 | c4388 | c4388 | c4388 | c4388 | c4388 | c4388 | c4388
    · refine wl_of hX hb cL_40 (rw_tsw (p1 := 256) ⟨by omega, by omega⟩ (by rw [c4388]; decide) ?_)
      exact cases 256 (by decide) (by omega)
    · refine wl_of hX hb cL_40 (rw_tsw (p1 := 329) ⟨by omega, by omega⟩ (by rw [c4388]; decide) ?_)
      exact cases 329 (by decide) (by omega)
    · refine wl_of hX hb cL_40 (rw_tsw (p1 := 354) ⟨by omega, by omega⟩ (by rw [c4388]; decide) ?_)
      exact cases 354 (by decide) (by omega)
    · refine wl_of hX hb cL_40 (rw_tsw (p1 := 367) ⟨by omega, by omega⟩ (by rw [c4388]; decide) ?_)
      exact cases 367 (by decide) (by omega)
    · refine wl_of hX hb cL_40 (rw_tsw (p1 := 380) ⟨by omega, by omega⟩ (by rw [c4388]; decide) ?_)
      exact cases 380 (by decide) (by omega)
    · refine wl_of hX hb cL_40 (rw_tsw (p1 := 405) ⟨by omega, by omega⟩ (by rw [c4388]; decide) ?_)
      exact cases 405 (by decide) (by omega)
    · refine wl_of hX hb cL_40 (rw_tsw (p1 := 454) ⟨by omega, by omega⟩ (by rw [c4388]; decide) ?_)
      exact cases 454 (by decide) (by omega)
    · refine wl_of hX hb cL_40 (rw_tsw (p1 := 503) ⟨by omega, by omega⟩ (by rw [c4388]; decide) ?_)
      exact cases 503 (by decide) (by omega)
    · refine wl_of hX hb cL_40 (rw_tsw (p1 := 516) ⟨by omega, by omega⟩ (by rw [c4388]; decide) ?_)
      exact cases 516 (by decide) (by omega)
    · refine wl_of hX hb cL_40 (rw_tsw (p1 := 553) ⟨by omega, by omega⟩ (by rw [c4388]; decide) ?_)
      exact cases 553 (by decide) (by omega)
    · refine wl_of hX hb cL_40 (rw_tsw (p1 := 578) ⟨by omega, by omega⟩ (by rw [c4388]; decide) ?_)
      exact cases 578 (by decide) (by omega)
    · refine wl_of hX hb cL_40 (rw_tsw (p1 := 603) ⟨by omega, by omega⟩ (by rw [c4388]; decide) ?_)
      exact cases 603 (by decide) (by omega)
    · refine wl_of hX hb cL_40 (rw_tsw (p1 := 616) ⟨by omega, by omega⟩ (by rw [c4388]; decide) ?_)
      exact cases 616 (by decide) (by omega)
    · refine wl_of hX hb cL_40 (rw_tsw (p1 := 629) ⟨by omega, by omega⟩ (by rw [c4388]; decide) ?_)
      exact cases 629 (by decide) (by omega)
    · refine wl_of hX hb cL_40 (rw_tsw (p1 := 642) ⟨by omega, by omega⟩ (by rw [c4388]; decide) ?_)
      exact cases 642 (by decide) (by omega)
    · refine wl_of hX hb cL_40 (rw_tsw (p1 := 655) ⟨by omega, by omega⟩ (by rw [c4388]; decide) ?_)
      exact cases 655 (by decide) (by omega)
    · refine wl_of hX hb cL_40 (rw_tsw (p1 := 668) ⟨by omega, by omega⟩ (by rw [c4388]; decide) ?_)
      exact cases 668 (by decide) (by omega)
    · refine wl_of hX hb cL_40 (rw_tsw (p1 := 705) ⟨by omega, by omega⟩ (by rw [c4388]; decide) ?_)
      exact cases 705 (by decide) (by omega)
    · refine wl_of hX hb cL_40 (rw_tsw (p1 := 718) ⟨by omega, by omega⟩ (by rw [c4388]; decide) ?_)
      exact cases 718 (by decide) (by omega)
    · refine wl_of hX hb cL_40 (rw_tsw (p1 := 755) ⟨by omega, by omega⟩ (by rw [c4388]; decide) ?_)
      exact cases 755 (by decide) (by omega)
    · refine wl_of hX hb cL_40 (rw_tsw (p1 := 792) ⟨by omega, by omega⟩ (by rw [c4388]; decide) ?_)
      exact cases 792 (by decide) (by omega)
    · refine wl_of hX hb cL_40 (rw_tsw (p1 := 829) ⟨by omega, by omega⟩ (by rw [c4388]; decide) ?_)
      exact cases 829 (by decide) (by omega)
    · refine wl_of hX hb cL_40 (rw_tsw (p1 := 882) ⟨by omega, by omega⟩ (by rw [c4388]; decide) ?_)
      exact cases 882 (by decide) (by omega)
    · refine wl_of hX hb cL_40 (rw_tsw (p1 := 919) ⟨by omega, by omega⟩ (by rw [c4388]; decide) ?_)
      exact cases 919 (by decide) (by omega)
    · refine wl_of hX hb cL_40 (rw_tsw (p1 := 944) ⟨by omega, by omega⟩ (by rw [c4388]; decide) ?_)
      exact cases 944 (by decide) (by omega)
    · refine wl_of hX hb cL_40 (rw_tsw (p1 := 957) ⟨by omega, by omega⟩ (by rw [c4388]; decide) ?_)
      exact cases 957 (by decide) (by omega)
    · refine wl_of hX hb cL_40 (rw_tsw (p1 := 994) ⟨by omega, by omega⟩ (by rw [c4388]; decide) ?_)
      exact cases 994 (by decide) (by omega)
    · refine wl_of hX hb cL_40 (rw_tsw (p1 := 1019) ⟨by omega, by omega⟩ (by rw [c4388]; decide) ?_)
      exact cases 1019 (by decide) (by omega)
    · refine wl_of hX hb cL_40 (rw_tsw (p1 := 1056) ⟨by omega, by omega⟩ (by rw [c4388]; decide) ?_)
      exact cases 1056 (by decide) (by omega)
    · refine wl_of hX hb cL_40 (rw_tsw (p1 := 1109) ⟨by omega, by omega⟩ (by rw [c4388]; decide) ?_)
      exact cases 1109 (by decide) (by omega)
    · refine wl_of hX hb cL_40 (rw_tsw (p1 := 1162) ⟨by omega, by omega⟩ (by rw [c4388]; decide) ?_)
      exact cases 1162 (by decide) (by omega)
    · refine wl_of hX hb cL_40 (rw_tsw (p1 := 1175) ⟨by omega, by omega⟩ (by rw [c4388]; decide) ?_)
      exact cases 1175 (by decide) (by omega)
    · refine wl_of hX hb cL_40 (rw_tsw (p1 := 1200) ⟨by omega, by omega⟩ (by rw [c4388]; decide) ?_)
      exact cases 1200 (by decide) (by omega)
    · refine wl_of hX hb cL_40 (rw_tsw (p1 := 1225) ⟨by omega, by omega⟩ (by rw [c4388]; decide) ?_)
      exact cases 1225 (by decide) (by omega)
    · refine wl_of hX hb cL_40 (rw_tsw (p1 := 1250) ⟨by omega, by omega⟩ (by rw [c4388]; decide) ?_)
      exact cases 1250 (by decide) (by omega)
    · refine wl_of hX hb cL_40 (rw_tsw (p1 := 1263) ⟨by omega, by omega⟩ (by rw [c4388]; decide) ?_)
      exact cases 1263 (by decide) (by omega)
    · refine wl_of hX hb cL_40 (rw_tsw (p1 := 1316) ⟨by omega, by omega⟩ (by rw [c4388]; decide) ?_)
      exact cases 1316 (by decide) (by omega)
    · refine wl_of hX hb cL_40 (rw_tsw (p1 := 1329) ⟨by omega, by omega⟩ (by rw [c4388]; decide) ?_)
      exact cases 1329 (by decide) (by omega)
    · refine wl_of hX hb cL_40 (rw_tsw (p1 := 1342) ⟨by omega, by omega⟩ (by rw [c4388]; decide) ?_)
      exact cases 1342 (by decide) (by omega)
    · refine wl_of hX hb cL_40 (rw_tsw (p1 := 1367) ⟨by omega, by omega⟩ (by rw [c4388]; decide) ?_)
      exact cases 1367 (by decide) (by omega)
    · refine wl_of hX hb cL_40 (rw_tsw (p1 := 1404) ⟨by omega, by omega⟩ (by rw [c4388]; decide) ?_)
      exact cases 1404 (by decide) (by omega)
    · refine wl_of hX hb cL_40 (rw_tsw (p1 := 1429) ⟨by omega, by omega⟩ (by rw [c4388]; decide) ?_)
      exact cases 1429 (by decide) (by omega)
    · refine wl_of hX hb cL_40 (rw_tsw (p1 := 1454) ⟨by omega, by omega⟩ (by rw [c4388]; decide) ?_)
      exact cases 1454 (by decide) (by omega)
    · refine wl_of hX hb cL_40 (rw_tsw (p1 := 1467) ⟨by omega, by omega⟩ (by rw [c4388]; decide) ?_)
      exact cases 1467 (by decide) (by omega)
    · refine wl_of hX hb cL_40 (rw_tsw (p1 := 1504) ⟨by omega, by omega⟩ (by rw [c4388]; decide) ?_)
      exact cases 1504 (by decide) (by omega)
    · refine wl_of hX hb cL_40 (rw_tsw (p1 := 1517) ⟨by omega, by omega⟩ (by rw [c4388]; decide) ?_)
      exact cases 1517 (by decide) (by omega)
    · refine wl_of hX hb cL_40 (rw_tsw (p1 := 1530) ⟨by omega, by omega⟩ (by rw [c4388]; decide) ?_)
      exact cases 1530 (by decide) (by omega)
    · refine wl_of hX hb cL_40 (rw_tsw (p1 := 1587) ⟨by omega, by omega⟩ (by rw [c4388]; decide) ?_)
      exact cases 1587 (by decide) (by omega)
    · refine wl_of hX hb cL_40 (rw_tsw (p1 := 1615) ⟨by omega, by omega⟩ (by rw [c4388]; decide) ?_)
      exact cases 1615 (by decide) (by omega)
    · refine wl_of hX hb cL_40 (rw_tsw (p1 := 1640) ⟨by omega, by omega⟩ (by rw [c4388]; decide) ?_)
      exact cases 1640 (by decide) (by omega)
    · refine wl_of hX hb cL_40 (rw_tsw (p1 := 1653) ⟨by omega, by omega⟩ (by rw [if_pos c4388]; decide) ?_)
      exact next (by omega)
theorem wl_back {kt : Nat → Option mc_E} {CB SB : Nat} {X : mc_S → Prop} {T : wq_T} {H : wq_H} {Len x m o : Nat} {i : Int} (hX : wlX kt CB SB X) (hb : T.2.1 ≤ CB ∧ T.2.2.1 ≤ SB) (hI : wlJ Len x m o T H) (hL : Len ≤ 3072) (hi : 0 ≤ i ∧ i + 6 ≤ Len) (next : WL kt CB SB X 23 (wlL (i + 6) x m o) [] T H) : WL kt CB SB X 1653 (wlL i x m o) [] T H := by
  obtain ⟨⟨hW, g0, gx, gm, go, hK, hr⟩, hXI, hY1, hY2⟩ := hI
  refine wl_of hX hb cL_1653 (rw_iinc (pc' := 1656) (z := i) (L' := [(4, vI (i + 6)), (3, .ref o), (2, .ref m), (1, .ref x), (0, .ref 0)]) rfl rfl rfl rfl ?_)
  refine wl_of hX hb cL_1656 (rw_goto (p1 := 23) (by decide) ?_)
  exact next
/-- the call that may throw, as the loop wants it -/
def wlLed (kt : Nat → Option mc_E) (CB SB : Nat) (X : mc_S → Prop) (Len x m o : Nat) : Prop := ∀ (T : wq_T) (H : wq_H) (i z : Int), T.2.1 + 20 ≤ CB ∧ T.2.2.1 + 500 ≤ SB → wI z → wlJ Len x m o T H → (∀ (z' : Int), wI z' → ∀ (T' : wq_T) (H' : wq_H), wlJ Len x m o T' H' → T'.2.1 ≤ T.2.1 + 20 → T'.2.2.1 ≤ T.2.2.1 + 500 → WL kt CB SB X 1598 (wlL i x m o) [vI z'] T' H') → WL kt CB SB X 1595 (wlL i x m o) [.ref o, vI z, .ref x] T H
set_option maxRecDepth 40000 in
theorem wl_loopL {kt : Nat → Option mc_E} {CB SB : Nat} {X : mc_S → Prop} {Len x m o : Nat} (hX : wlX kt CB SB X) (hL : Len ≤ 3072) (hled : wlLed kt CB SB X Len x m o) : ∀ (n : Nat) (T : wq_T) (H : wq_H) (i : Int), 0 ≤ i ∧ i ≤ Len → (Len - i).toNat = n → T.2.1 + 4 * (n + 6) ≤ CB → T.2.2.1 + 100 * (n + 6) ≤ SB → wlJ Len x m o T H → WL kt CB SB X 23 (wlL i x m o) [] T H := by
  intro n
  induction n using Nat.strongRecOn with
  | _ n ih =>
    intro T H i hi hn hc hs hI
    have hb : T.2.1 ≤ CB ∧ T.2.2.1 ≤ SB := ⟨by omega, by omega⟩
    have hb2 : T.2.1 + 20 ≤ CB ∧ T.2.2.1 + 500 ≤ SB := ⟨by omega, by omega⟩
    refine wl_head hX hb hI hL hi (fun t ht h6 => ?_) (fun h6 => wl_back hX hb hI hL ⟨hi.1, h6⟩ (ih (Len - (i + 6)).toNat (by omega) T H (i + 6) ⟨by omega, by omega⟩ rfl (by omega) (by omega) hI))
    have next : ∀ T' H', wlJ Len x m o T' H' → T'.2.1 ≤ T.2.1 + 20 → T'.2.2.1 ≤ T.2.2.1 + 500 → WL kt CB SB X 1653 (wlL i x m o) [] T' H' := fun T' H' hI' h1 h2 => wl_back hX ⟨by omega, by omega⟩ hI' hL ⟨hi.1, h6⟩ (ih (Len - (i + 6)).toNat (by omega) T' H' (i + 6) ⟨by omega, by omega⟩ rfl (by omega) (by omega) hI')
    rcases List.mem_cons.mp ht with rfl | ht
    · exact wl_c0 hX hb hI hL ⟨hi.1, h6⟩ hb2 next
    rcases List.mem_cons.mp ht with rfl | ht
    · exact wl_c1 hX hb hI hL ⟨hi.1, h6⟩ hb2 next
    rcases List.mem_cons.mp ht with rfl | ht
    · exact wl_c2 hX hb hI hL ⟨hi.1, h6⟩ hb2 next
    rcases List.mem_cons.mp ht with rfl | ht
    · exact wl_c3 hX hb hI hL ⟨hi.1, h6⟩ hb2 next
    rcases List.mem_cons.mp ht with rfl | ht
    · exact wl_c4 hX hb hI hL ⟨hi.1, h6⟩ hb2 next
    rcases List.mem_cons.mp ht with rfl | ht
    · exact wl_c5 hX hb hI hL ⟨hi.1, h6⟩ hb2 next
    rcases List.mem_cons.mp ht with rfl | ht
    · exact wl_c6 hX hb hI hL ⟨hi.1, h6⟩ hb2 next
    rcases List.mem_cons.mp ht with rfl | ht
    · exact wl_c7 hX hb hI hL ⟨hi.1, h6⟩ hb2 next
    rcases List.mem_cons.mp ht with rfl | ht
    · exact wl_c8 hX hb hI hL ⟨hi.1, h6⟩ hb2 next
    rcases List.mem_cons.mp ht with rfl | ht
    · exact wl_c9 hX hb hI hL ⟨hi.1, h6⟩ hb2 next
    rcases List.mem_cons.mp ht with rfl | ht
    · exact wl_c10 hX hb hI hL ⟨hi.1, h6⟩ hb2 next
    rcases List.mem_cons.mp ht with rfl | ht
    · exact wl_c11 hX hb hI hL ⟨hi.1, h6⟩ hb2 next
    rcases List.mem_cons.mp ht with rfl | ht
    · exact wl_c12 hX hb hI hL ⟨hi.1, h6⟩ hb2 next
    rcases List.mem_cons.mp ht with rfl | ht
    · exact wl_c13 hX hb hI hL ⟨hi.1, h6⟩ hb2 next
    rcases List.mem_cons.mp ht with rfl | ht
    · exact wl_c14 hX hb hI hL ⟨hi.1, h6⟩ hb2 next
    rcases List.mem_cons.mp ht with rfl | ht
    · exact wl_c15 hX hb hI hL ⟨hi.1, h6⟩ hb2 next
    rcases List.mem_cons.mp ht with rfl | ht
    · exact wl_c16 hX hb hI hL ⟨hi.1, h6⟩ hb2 next
    rcases List.mem_cons.mp ht with rfl | ht
    · exact wl_c17 hX hb hI hL ⟨hi.1, h6⟩ hb2 next
    rcases List.mem_cons.mp ht with rfl | ht
    · exact wl_c18 hX hb hI hL ⟨hi.1, h6⟩ hb2 next
    rcases List.mem_cons.mp ht with rfl | ht
    · exact wl_c19 hX hb hI hL ⟨hi.1, h6⟩ hb2 next
    rcases List.mem_cons.mp ht with rfl | ht
    · exact wl_c20 hX hb hI hL ⟨hi.1, h6⟩ hb2 next
    rcases List.mem_cons.mp ht with rfl | ht
    · exact wl_c21 hX hb hI hL ⟨hi.1, h6⟩ hb2 next
    rcases List.mem_cons.mp ht with rfl | ht
    · exact wl_c22 hX hb hI hL ⟨hi.1, h6⟩ hb2 next
    rcases List.mem_cons.mp ht with rfl | ht
    · exact wl_c23 hX hb hI hL ⟨hi.1, h6⟩ hb2 next
    rcases List.mem_cons.mp ht with rfl | ht
    · exact wl_c24 hX hb hI hL ⟨hi.1, h6⟩ hb2 next
    rcases List.mem_cons.mp ht with rfl | ht
    · exact wl_c25 hX hb hI hL ⟨hi.1, h6⟩ hb2 next
    rcases List.mem_cons.mp ht with rfl | ht
    · exact wl_c26 hX hb hI hL ⟨hi.1, h6⟩ hb2 next
    rcases List.mem_cons.mp ht with rfl | ht
    · exact wl_c27 hX hb hI hL ⟨hi.1, h6⟩ hb2 next
    rcases List.mem_cons.mp ht with rfl | ht
    · exact wl_c28 hX hb hI hL ⟨hi.1, h6⟩ hb2 next
    rcases List.mem_cons.mp ht with rfl | ht
    · exact wl_c29 hX hb hI hL ⟨hi.1, h6⟩ hb2 next
    rcases List.mem_cons.mp ht with rfl | ht
    · exact wl_c30 hX hb hI hL ⟨hi.1, h6⟩ hb2 next
    rcases List.mem_cons.mp ht with rfl | ht
    · exact wl_c31 hX hb hI hL ⟨hi.1, h6⟩ hb2 next
    rcases List.mem_cons.mp ht with rfl | ht
    · exact wl_c32 hX hb hI hL ⟨hi.1, h6⟩ hb2 next
    rcases List.mem_cons.mp ht with rfl | ht
    · exact wl_c33 hX hb hI hL ⟨hi.1, h6⟩ hb2 next
    rcases List.mem_cons.mp ht with rfl | ht
    · exact wl_c34 hX hb hI hL ⟨hi.1, h6⟩ hb2 next
    rcases List.mem_cons.mp ht with rfl | ht
    · exact wl_c35 hX hb hI hL ⟨hi.1, h6⟩ hb2 next
    rcases List.mem_cons.mp ht with rfl | ht
    · exact wl_c36 hX hb hI hL ⟨hi.1, h6⟩ hb2 next
    rcases List.mem_cons.mp ht with rfl | ht
    · exact wl_c37 hX hb hI hL ⟨hi.1, h6⟩ hb2 next
    rcases List.mem_cons.mp ht with rfl | ht
    · exact wl_c38 hX hb hI hL ⟨hi.1, h6⟩ hb2 next
    rcases List.mem_cons.mp ht with rfl | ht
    · exact wl_c39 hX hb hI hL ⟨hi.1, h6⟩ hb2 next
    rcases List.mem_cons.mp ht with rfl | ht
    · exact wl_c40 hX hb hI hL ⟨hi.1, h6⟩ hb2 next
    rcases List.mem_cons.mp ht with rfl | ht
    · exact wl_c41 hX hb hI hL ⟨hi.1, h6⟩ hb2 next
    rcases List.mem_cons.mp ht with rfl | ht
    · exact wl_c42 hX hb hI hL ⟨hi.1, h6⟩ hb2 next
    rcases List.mem_cons.mp ht with rfl | ht
    · exact wl_c43 hX hb hI hL ⟨hi.1, h6⟩ hb2 next
    rcases List.mem_cons.mp ht with rfl | ht
    · exact wl_c44 hX hb hI hL ⟨hi.1, h6⟩ hb2 next
    rcases List.mem_cons.mp ht with rfl | ht
    · exact wl_c45 hX hb hI hL ⟨hi.1, h6⟩ hb2 next
    rcases List.mem_cons.mp ht with rfl | ht
    · exact wl_c46 hX hb hI hL ⟨hi.1, h6⟩ hb2 next
    rcases List.mem_cons.mp ht with rfl | ht
    · exact wl_c47 hX hb hI hL ⟨hi.1, h6⟩ hb2 (fun hz _ hI2 k => hled T H i _ hb2 hz hI2 k) next
    rcases List.mem_cons.mp ht with rfl | ht
    · exact wl_c48 hX hb hI hL ⟨hi.1, h6⟩ hb2 next
    rcases List.mem_cons.mp ht with rfl | ht
    · exact wl_c49 hX hb hI hL ⟨hi.1, h6⟩ hb2 next
    cases ht
