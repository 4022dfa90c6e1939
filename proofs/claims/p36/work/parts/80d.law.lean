/-! THE LAW, GONE ON WITH (own work) -/
set_option maxHeartbeats 4000000 in
theorem wl_c23 {kt : Nat → Option mc_E} {CB SB : Nat} {X : mc_S → Prop} {T : wq_T} {H : wq_H} {Len x m o : Nat} {i : Int} (hX : wlX kt CB SB X) (hb : T.2.1 ≤ CB ∧ T.2.2.1 ≤ SB) (hI : wlJ Len x m o T H) (hL : Len ≤ 3072) (hi : 0 ≤ i ∧ i + 6 ≤ Len) (hb2 : T.2.1 + 20 ≤ CB ∧ T.2.2.1 + 500 ≤ SB)  (next : ∀ T' H', wlJ Len x m o T' H' → T'.2.1 ≤ T.2.1 + 20 → T'.2.2.1 ≤ T.2.2.1 + 500 → WL kt CB SB X 1653 (wlL i x m o) [] T' H') : WL kt CB SB X 919 (wlL i x m o) [] T H := by
  obtain ⟨⟨hW, g0, gx, gm, go, hK, hr⟩, hXI, hY1, hY2⟩ := hI
  refine wl_of hX hb cL_919 (rw_aload_n (pc' := 920) (v := .ref x) rfl rfl rfl ?_)
  refine wl_of hX hb cL_920 (rw_aload_n (pc' := 921) (v := .ref 0) rfl rfl rfl ?_)
  refine wl_of hX hb cL_921 (rw_iload (pc' := 923) (z := i) rfl rfl ?_)
  refine wl_of hX hb cL_923 (rw_iconst (pc' := 924) rfl ?_)
  refine wl_of hX hb cL_924 (rw_iadd (pc' := 925) rfl ?_)
  refine wl_of hX hb cL_925 (xa_I (so := 0) (pc' := 926) (a := 0) hW g0 (wsh_s _) (by omega) (wty_s _ _) (by omega) (by omega) rfl (fun b3680 b3681 => ?_))
  obtain ⟨B, tc, tm, cu, dr, C8, e8, d8, n8, g8, ce8, e0, gtc, htc, em, gtm, htm, ecu, gcu, edr, gdr, hcu, hdr, hdec, hded, hsp, hC1, hC2, hcu8, hrb8, hcg8, hmn8, hE, hZ, hn8, hXA, hV8, hSG, ece8, gce8, hcen8, hhdr8, hknn8, -⟩ := hXI
  have hN3 := RB_n3 hrb8
  have hE13 : ∀ h : Nat, h < 24 → 0 ≤ e8 13 h ∧ e8 13 h ≤ 100 := fun k hk => by
    obtain ⟨s, h1, h2, h3⟩ := hcu8.1.2.2.1
    exact ⟨(h3 k hk).1, (h3 k hk).2.1⟩
  have hXW := hXA.1
  have hXN := hXA.2
  have hE0 : e8 0 3 = d8 0 3 ∧ e8 0 0 = d8 0 0 := by
    have h := hE 0 (by decide)
    exact ⟨congrFun h 3, congrFun h 0⟩
  have u3682 := CU_k hcu8
  have h3683 : CY T H cu (d8 0 3) g8 (H cu 17) := ⟨hcg8, rfl⟩
  have h3684 : RY T H m (d8 0 3) g8 (H m 32) := ⟨hmn8, rfl⟩
  obtain ⟨t9, ht9⟩ : ∃ t : Int, t = H x 9 := ⟨_, rfl⟩
  obtain ⟨y9, hy9⟩ : ∃ y : Int, y = H 0 ((i + 1).toNat) := ⟨_, rfl⟩
  obtain ⟨r3685, q3686, g3687⟩ := hW.ref gx (t' := 6) (n := 13) (j := 2) (p := 0) (q := 0) rfl (by decide) rfl
  refine wl_of hX hb cL_926 (xc_V (pc' := 929) (r := x) (as := [vI (H 0 ((i + 1).toNat))]) (st := []) (lm_11_118) rfl rfl (Nat.le_of_ble_eq_true rfl) hW gx sh_1 (by decide) rfl (by decide) (u_107 (e := e8) (d := d8) (n := n8) hW gx ⟨by omega, by omega⟩ ecu gcu q3686 g3687 ece8 gce8 (by assumption) (by assumption) (by omega) (by omega) (by omega) (by omega) hcu8 hcen8 hhdr8) (fun R3688 T3689 H3690 p3691 => ?_))
  obtain ⟨e3692, w3694, f3695, z3696, e3693, b3697, p3698⟩ := p3691
  subst e3692
  subst e3693
  show WL _ _ _ _ 929 [(4, vI i), (3, .ref o), (2, .ref m), (1, .ref x), (0, .ref 0)] [vI z3696] _ H3690
  refine wl_of hX hb cL_929 (rw_pop (pc' := 930) rfl rfl ?_)
  refine wl_of hX hb cL_930 (rw_aload_n (pc' := 931) (v := .ref m) rfl rfl rfl ?_)
  refine wl_of hX hb cL_931 (rw_aload_n (pc' := 932) (v := .ref 0) rfl rfl rfl ?_)
  refine wl_of hX hb cL_932 (rw_iload (pc' := 934) (z := i) rfl rfl ?_)
  refine wl_of hX hb cL_934 (rw_iconst (pc' := 935) rfl ?_)
  refine wl_of hX hb cL_935 (rw_iadd (pc' := 936) rfl ?_)
  have k3702 : H3690 0 ((i + 1).toNat) = H 0 ((i + 1).toNat) := (f3695 0 ((i + 1).toNat) _ g0 (wmem_s rfl))
  refine wl_of hX hb cL_936 (xa_I (so := 0) (pc' := 937) (a := 0) w3694 g0 (wsh_s _) (by omega) (wty_s _ _) (by omega) (by omega) rfl (fun b3700 b3701 => ?_))
  have k3703 : wKI H3690 m = wKI H m := (wKI_fr hW gm f3695 rfl)
  have k3704 : H3690 x 9 = H x 9 := (f3695 x 9 _ gx rfl)
  have k3705 : H3690 m 6 = H m 6 := (f3695 m 6 _ gm rfl)
  have k3706 : H3690 x 11 = H x 11 := (f3695 x 11 _ gx rfl)
  have k3707 : H3690 m 13 = H m 13 := (f3695 m 13 _ gm rfl)
  have k3708 : H3690 x 8 = H x 8 := (f3695 x 8 _ gx rfl)
  have k3709 : H3690 m 3 = H m 3 := (f3695 m 3 _ gm rfl)
  rw [show H3690 0 ((i + 1).toNat) = H 0 ((i + 1).toNat) by omega]
  have h3710 : RB T H3690 m e8 d8 := (RB_fr hW gm f3695 rfl hrb8)
  have h3711 : KNN T H3690 m e8 d8 := (KNN_fr hW gm f3695 rfl hknn8)
  refine wl_of hX hb cL_937 (xc_V (pc' := 940) (r := m) (as := [vI (H 0 ((i + 1).toNat))]) (st := []) (lm_11_121) rfl rfl (Nat.le_of_ble_eq_true rfl) w3694 gm sh_42 (by decide) rfl (by decide) (u_256 (e := e8) (d := d8) w3694 gm ⟨by omega, by omega⟩ (by omega) (by assumption) (by assumption) (by assumption) (by assumption) h3710 h3711) (fun R3712 T3713 H3714 p3715 => ?_))
  obtain ⟨e3716, w3718, f3719, z3720, e3717, b3721, p3722⟩ := p3715
  subst e3716
  subst e3717
  obtain ⟨a3723, a3724⟩ := p3722
  show WL _ _ _ _ 940 [(4, vI i), (3, .ref o), (2, .ref m), (1, .ref x), (0, .ref 0)] [vI z3720] _ H3714
  refine wl_of hX hb cL_940 (rw_pop (pc' := 941) rfl rfl ?_)
  refine wl_of hX hb cL_941 (rw_goto (p1 := 1653) (by decide) ?_)
  have k3725 : H3714 x 9 = H3690 x 9 := (f3719 x 9 _ gx rfl)
  have k3726 : H3714 m 6 = H3690 m 6 := (f3719 m 6 _ gm rfl)
  have k3727 : H3714 x 11 = H3690 x 11 := (f3719 x 11 _ gx rfl)
  have k3728 : H3714 m 13 = H3690 m 13 := (f3719 m 13 _ gm rfl)
  have k3729 : H3714 x 8 = H3690 x 8 := (f3719 x 8 _ gx rfl)
  have k3730 : H3714 m 3 = H3690 m 3 := (f3719 m 3 _ gm rfl)
  have k3731 : H3714 x 0 = H x 0 := ((f3719 x 0 _ gx rfl).trans (f3695 x 0 _ gx rfl))
  have q3732 : H3714 x 0 = (tc : Int) := k3731.trans e0
  have k3733 : H3714 m 5 = H m 5 := ((f3719 m 5 _ gm rfl).trans (f3695 m 5 _ gm rfl))
  have q3734 : H3714 m 5 = (tm : Int) := k3733.trans em
  have k3735 : H3714 x 6 = H x 6 := ((f3719 x 6 _ gx rfl).trans (f3695 x 6 _ gx rfl))
  have q3736 : H3714 x 6 = (cu : Int) := k3735.trans ecu
  have k3737 : H3714 x 7 = H x 7 := ((f3719 x 7 _ gx rfl).trans (f3695 x 7 _ gx rfl))
  have q3738 : H3714 x 7 = (dr : Int) := k3737.trans edr
  have h3739 : CEN T H3714 ce8 e8 d8 := (CEN_fr w3694 gce8 f3719 rfl p3698)
  have h3740 : TP T H3714 tc B := (TP_fr w3694 gtc f3719 rfl (TP_fr hW gtc f3695 rfl htc))
  have h3741 : TM T H3714 tm B := (TM_fr w3694 gtm f3719 rfl (TM_fr hW gtm f3695 rfl htm))
  have h3742 : DD T H3714 cu  := (DD_fr w3694 gcu f3719 rfl (DD_fr hW gcu f3695 rfl hcu))
  have h3743 : DD T H3714 dr  := (DD_fr w3694 gdr f3719 rfl (DD_fr hW gdr f3695 rfl hdr))
  have h3744 : DE T H3714 cu  := (DE_fr w3694 gcu f3719 rfl (DE_fr hW gcu f3695 rfl hdec))
  have h3745 : DE T H3714 dr  := (DE_fr w3694 gdr f3719 rfl (DE_fr hW gdr f3695 rfl hded))
  have h3746 : SP T H3714 x C8 := (SP_fr w3694 gx f3719 rfl (SP_fr hW gx f3695 rfl hsp))
  have h3747 : CU T H3714 cu e8 d8 n8 := (CU_fr w3694 gcu f3719 rfl (CU_fr hW gcu f3695 rfl hcu8))
  have h3748 : CY T H3714 cu (d8 0 3) g8 (H cu 17) := (CY_fr w3694 gcu f3719 rfl (CY_fr hW gcu f3695 rfl h3683))
  have k3749 : H3714 x 3 = H x 3 := ((f3719 x 3 _ gx rfl).trans (f3695 x 3 _ gx rfl))
  have q3750 : H3714 x 3 = (ce8 : Int) := k3749.trans ece8
  have h3751 : HDR T H3714 ce8  := (HDR_fr w3694 gce8 f3719 rfl (HDR_fr hW gce8 f3695 rfl hhdr8))
  have h3752 : RY T H3714 m (d8 0 3) g8 (H m 32) := (RY_fr w3694 gm f3719 rfl (RY_fr hW gm f3695 rfl h3684))
  have h3753 : RB T H3714 m e8 d8 := (RB_fr w3694 gm f3719 rfl h3710)
  exact WL.loc hX (by simp) (next T H3714 ⟨⟨w3718, g0, gx, gm, go, by omega, by omega⟩, ⟨_, tc, tm, cu, dr, _, _, _, _, _, ce8, q3732, gtc, h3740, q3734, gtm, h3741, q3736, gcu, q3738, gdr, h3742, h3743, h3744, h3745, h3746, hC1, hC2, h3747, h3753, (h3748).1, (h3752).1, hE, hZ, (by omega), (by assumption), (by omega), (by first | assumption | exact SG_0), q3750, gce8, h3739, h3751, a3724, gm⟩, by omega, by omega⟩ (by omega) (by omega))
set_option maxHeartbeats 4000000 in
theorem wl_c24 {kt : Nat → Option mc_E} {CB SB : Nat} {X : mc_S → Prop} {T : wq_T} {H : wq_H} {Len x m o : Nat} {i : Int} (hX : wlX kt CB SB X) (hb : T.2.1 ≤ CB ∧ T.2.2.1 ≤ SB) (hI : wlJ Len x m o T H) (hL : Len ≤ 3072) (hi : 0 ≤ i ∧ i + 6 ≤ Len) (hb2 : T.2.1 + 20 ≤ CB ∧ T.2.2.1 + 500 ≤ SB)  (next : ∀ T' H', wlJ Len x m o T' H' → T'.2.1 ≤ T.2.1 + 20 → T'.2.2.1 ≤ T.2.2.1 + 500 → WL kt CB SB X 1653 (wlL i x m o) [] T' H') : WL kt CB SB X 944 (wlL i x m o) [] T H := by
  obtain ⟨⟨hW, g0, gx, gm, go, hK, hr⟩, hXI, hY1, hY2⟩ := hI
  refine wl_of hX hb cL_944 (rw_aload_n (pc' := 945) (v := .ref x) rfl rfl rfl ?_)
  obtain ⟨B, tc, tm, cu, dr, C8, e8, d8, n8, g8, ce8, e0, gtc, htc, em, gtm, htm, ecu, gcu, edr, gdr, hcu, hdr, hdec, hded, hsp, hC1, hC2, hcu8, hrb8, hcg8, hmn8, hE, hZ, hn8, hXA, hV8, hSG, ece8, gce8, hcen8, hhdr8, hknn8, -⟩ := hXI
  have hN3 := RB_n3 hrb8
  have hE13 : ∀ h : Nat, h < 24 → 0 ≤ e8 13 h ∧ e8 13 h ≤ 100 := fun k hk => by
    obtain ⟨s, h1, h2, h3⟩ := hcu8.1.2.2.1
    exact ⟨(h3 k hk).1, (h3 k hk).2.1⟩
  have hXW := hXA.1
  have hXN := hXA.2
  have hE0 : e8 0 3 = d8 0 3 ∧ e8 0 0 = d8 0 0 := by
    have h := hE 0 (by decide)
    exact ⟨congrFun h 3, congrFun h 0⟩
  have u3754 := CU_k hcu8
  have h3755 : CY T H cu (d8 0 3) g8 (H cu 17) := ⟨hcg8, rfl⟩
  have h3756 : RY T H m (d8 0 3) g8 (H m 32) := ⟨hmn8, rfl⟩
  obtain ⟨t9, ht9⟩ : ∃ t : Int, t = H x 9 := ⟨_, rfl⟩
  obtain ⟨r3757, q3758, g3759⟩ := hW.ref gx (t' := 6) (n := 13) (j := 2) (p := 0) (q := 0) rfl (by decide) rfl
  refine wl_of hX hb cL_945 (xc_V (pc' := 948) (r := x) (as := []) (st := []) (lm_11_122) rfl rfl (Nat.le_of_ble_eq_true rfl) hW gx sh_1 (by decide) rfl (by decide) (u_108 (e := e8) (d := d8) (n := n8) hW gx ecu gcu q3758 g3759 ece8 gce8 (by assumption) (by assumption) (by omega) (by omega) (by omega) (by omega) hcu8 hcen8 hhdr8) (fun R3760 T3761 H3762 p3763 => ?_))
  obtain ⟨e3764, w3766, f3767, z3768, e3765, b3769, p3770⟩ := p3763
  subst e3764
  subst e3765
  show WL _ _ _ _ 948 [(4, vI i), (3, .ref o), (2, .ref m), (1, .ref x), (0, .ref 0)] [vL z3768] _ H3762
  refine wl_of hX hb cL_948 (rw_pop2 (pc' := 949) rfl rfl ?_)
  refine wl_of hX hb cL_949 (rw_aload_n (pc' := 950) (v := .ref m) rfl rfl rfl ?_)
  have k3772 : wKI H3762 m = wKI H m := (wKI_fr hW gm f3767 rfl)
  have k3773 : H3762 x 9 = H x 9 := (f3767 x 9 _ gx rfl)
  have k3774 : H3762 m 6 = H m 6 := (f3767 m 6 _ gm rfl)
  have k3775 : H3762 x 11 = H x 11 := (f3767 x 11 _ gx rfl)
  have k3776 : H3762 m 13 = H m 13 := (f3767 m 13 _ gm rfl)
  have k3777 : H3762 x 8 = H x 8 := (f3767 x 8 _ gx rfl)
  have k3778 : H3762 m 3 = H m 3 := (f3767 m 3 _ gm rfl)
  have h3779 : RB T H3762 m e8 d8 := (RB_fr hW gm f3767 rfl hrb8)
  have h3780 : KNN T H3762 m e8 d8 := (KNN_fr hW gm f3767 rfl hknn8)
  refine wl_of hX hb cL_950 (xc_V (pc' := 953) (r := m) (as := []) (st := []) (lm_11_125) rfl rfl (Nat.le_of_ble_eq_true rfl) w3766 gm sh_42 (by decide) rfl (by decide) (u_258 (e := e8) (d := d8) w3766 gm (by omega) (by assumption) (by assumption) (by assumption) (by assumption) h3779 h3780) (fun R3781 T3782 H3783 p3784 => ?_))
  obtain ⟨e3785, w3787, f3788, z3789, e3786, b3790, p3791⟩ := p3784
  subst e3785
  subst e3786
  obtain ⟨a3792, a3793⟩ := p3791
  show WL _ _ _ _ 953 [(4, vI i), (3, .ref o), (2, .ref m), (1, .ref x), (0, .ref 0)] [vL z3789] _ H3783
  refine wl_of hX hb cL_953 (rw_pop2 (pc' := 954) rfl rfl ?_)
  refine wl_of hX hb cL_954 (rw_goto (p1 := 1653) (by decide) ?_)
  have k3794 : H3783 x 9 = H3762 x 9 := (f3788 x 9 _ gx rfl)
  have k3795 : H3783 m 6 = H3762 m 6 := (f3788 m 6 _ gm rfl)
  have k3796 : H3783 x 11 = H3762 x 11 := (f3788 x 11 _ gx rfl)
  have k3797 : H3783 m 13 = H3762 m 13 := (f3788 m 13 _ gm rfl)
  have k3798 : H3783 x 8 = H3762 x 8 := (f3788 x 8 _ gx rfl)
  have k3799 : H3783 m 3 = H3762 m 3 := (f3788 m 3 _ gm rfl)
  have k3800 : H3783 x 0 = H x 0 := ((f3788 x 0 _ gx rfl).trans (f3767 x 0 _ gx rfl))
  have q3801 : H3783 x 0 = (tc : Int) := k3800.trans e0
  have k3802 : H3783 m 5 = H m 5 := ((f3788 m 5 _ gm rfl).trans (f3767 m 5 _ gm rfl))
  have q3803 : H3783 m 5 = (tm : Int) := k3802.trans em
  have k3804 : H3783 x 6 = H x 6 := ((f3788 x 6 _ gx rfl).trans (f3767 x 6 _ gx rfl))
  have q3805 : H3783 x 6 = (cu : Int) := k3804.trans ecu
  have k3806 : H3783 x 7 = H x 7 := ((f3788 x 7 _ gx rfl).trans (f3767 x 7 _ gx rfl))
  have q3807 : H3783 x 7 = (dr : Int) := k3806.trans edr
  have h3808 : CEN T H3783 ce8 e8 d8 := (CEN_fr w3766 gce8 f3788 rfl p3770)
  have h3809 : TP T H3783 tc B := (TP_fr w3766 gtc f3788 rfl (TP_fr hW gtc f3767 rfl htc))
  have h3810 : TM T H3783 tm B := (TM_fr w3766 gtm f3788 rfl (TM_fr hW gtm f3767 rfl htm))
  have h3811 : DD T H3783 cu  := (DD_fr w3766 gcu f3788 rfl (DD_fr hW gcu f3767 rfl hcu))
  have h3812 : DD T H3783 dr  := (DD_fr w3766 gdr f3788 rfl (DD_fr hW gdr f3767 rfl hdr))
  have h3813 : DE T H3783 cu  := (DE_fr w3766 gcu f3788 rfl (DE_fr hW gcu f3767 rfl hdec))
  have h3814 : DE T H3783 dr  := (DE_fr w3766 gdr f3788 rfl (DE_fr hW gdr f3767 rfl hded))
  have h3815 : SP T H3783 x C8 := (SP_fr w3766 gx f3788 rfl (SP_fr hW gx f3767 rfl hsp))
  have h3816 : CU T H3783 cu e8 d8 n8 := (CU_fr w3766 gcu f3788 rfl (CU_fr hW gcu f3767 rfl hcu8))
  have h3817 : CY T H3783 cu (d8 0 3) g8 (H cu 17) := (CY_fr w3766 gcu f3788 rfl (CY_fr hW gcu f3767 rfl h3755))
  have k3818 : H3783 x 3 = H x 3 := ((f3788 x 3 _ gx rfl).trans (f3767 x 3 _ gx rfl))
  have q3819 : H3783 x 3 = (ce8 : Int) := k3818.trans ece8
  have h3820 : HDR T H3783 ce8  := (HDR_fr w3766 gce8 f3788 rfl (HDR_fr hW gce8 f3767 rfl hhdr8))
  have h3821 : RY T H3783 m (d8 0 3) g8 (H m 32) := (RY_fr w3766 gm f3788 rfl (RY_fr hW gm f3767 rfl h3756))
  have h3822 : RB T H3783 m e8 d8 := (RB_fr w3766 gm f3788 rfl h3779)
  exact WL.loc hX (by simp) (next T H3783 ⟨⟨w3787, g0, gx, gm, go, by omega, by omega⟩, ⟨_, tc, tm, cu, dr, _, _, _, _, _, ce8, q3801, gtc, h3809, q3803, gtm, h3810, q3805, gcu, q3807, gdr, h3811, h3812, h3813, h3814, h3815, hC1, hC2, h3816, h3822, (h3817).1, (h3821).1, hE, hZ, (by omega), (by assumption), (by omega), (by first | assumption | exact SG_0), q3819, gce8, h3808, h3820, a3793, gm⟩, by omega, by omega⟩ (by omega) (by omega))
set_option maxHeartbeats 4000000 in
theorem wl_c25 {kt : Nat → Option mc_E} {CB SB : Nat} {X : mc_S → Prop} {T : wq_T} {H : wq_H} {Len x m o : Nat} {i : Int} (hX : wlX kt CB SB X) (hb : T.2.1 ≤ CB ∧ T.2.2.1 ≤ SB) (hI : wlJ Len x m o T H) (hL : Len ≤ 3072) (hi : 0 ≤ i ∧ i + 6 ≤ Len) (hb2 : T.2.1 + 20 ≤ CB ∧ T.2.2.1 + 500 ≤ SB)  (next : ∀ T' H', wlJ Len x m o T' H' → T'.2.1 ≤ T.2.1 + 20 → T'.2.2.1 ≤ T.2.2.1 + 500 → WL kt CB SB X 1653 (wlL i x m o) [] T' H') : WL kt CB SB X 957 (wlL i x m o) [] T H := by
  obtain ⟨⟨hW, g0, gx, gm, go, hK, hr⟩, hXI, hY1, hY2⟩ := hI
  refine wl_of hX hb cL_957 (rw_aload_n (pc' := 958) (v := .ref x) rfl rfl rfl ?_)
  refine wl_of hX hb cL_958 (rw_aload_n (pc' := 959) (v := .ref 0) rfl rfl rfl ?_)
  refine wl_of hX hb cL_959 (rw_iload (pc' := 961) (z := i) rfl rfl ?_)
  refine wl_of hX hb cL_961 (rw_iconst (pc' := 962) rfl ?_)
  refine wl_of hX hb cL_962 (rw_iadd (pc' := 963) rfl ?_)
  refine wl_of hX hb cL_963 (xa_I (so := 0) (pc' := 964) (a := 0) hW g0 (wsh_s _) (by omega) (wty_s _ _) (by omega) (by omega) rfl (fun b3823 b3824 => ?_))
  refine wl_of hX hb cL_964 (rw_aload_n (pc' := 965) (v := .ref 0) rfl rfl rfl ?_)
  refine wl_of hX hb cL_965 (rw_iload (pc' := 967) (z := i) rfl rfl ?_)
  refine wl_of hX hb cL_967 (rw_iconst (pc' := 968) rfl ?_)
  refine wl_of hX hb cL_968 (rw_iadd (pc' := 969) rfl ?_)
  refine wl_of hX hb cL_969 (xa_I (so := 0) (pc' := 970) (a := 0) hW g0 (wsh_s _) (by omega) (wty_s _ _) (by omega) (by omega) rfl (fun b3825 b3826 => ?_))
  obtain ⟨B, tc, tm, cu, dr, C8, e8, d8, n8, g8, ce8, e0, gtc, htc, em, gtm, htm, ecu, gcu, edr, gdr, hcu, hdr, hdec, hded, hsp, hC1, hC2, hcu8, hrb8, hcg8, hmn8, hE, hZ, hn8, hXA, hV8, hSG, ece8, gce8, hcen8, hhdr8, hknn8, -⟩ := hXI
  have hN3 := RB_n3 hrb8
  have hE13 : ∀ h : Nat, h < 24 → 0 ≤ e8 13 h ∧ e8 13 h ≤ 100 := fun k hk => by
    obtain ⟨s, h1, h2, h3⟩ := hcu8.1.2.2.1
    exact ⟨(h3 k hk).1, (h3 k hk).2.1⟩
  have hXW := hXA.1
  have hXN := hXA.2
  have hE0 : e8 0 3 = d8 0 3 ∧ e8 0 0 = d8 0 0 := by
    have h := hE 0 (by decide)
    exact ⟨congrFun h 3, congrFun h 0⟩
  have u3827 := CU_k hcu8
  have h3828 : CY T H cu (d8 0 3) g8 (H cu 17) := ⟨hcg8, rfl⟩
  have h3829 : RY T H m (d8 0 3) g8 (H m 32) := ⟨hmn8, rfl⟩
  obtain ⟨t9, ht9⟩ : ∃ t : Int, t = H x 9 := ⟨_, rfl⟩
  obtain ⟨y9, hy9⟩ : ∃ y : Int, y = H 0 ((i + 2).toNat) := ⟨_, rfl⟩
  obtain ⟨r3830, q3831, g3832⟩ := hW.ref gx (t' := 6) (n := 13) (j := 2) (p := 0) (q := 0) rfl (by decide) rfl
  refine wl_of hX hb cL_970 (xc_V (pc' := 973) (r := x) (as := [vI (H 0 ((i + 1).toNat)), vI (H 0 ((i + 2).toNat))]) (st := []) (lm_11_126) rfl rfl (Nat.le_of_ble_eq_true rfl) hW gx sh_1 (by decide) rfl (by decide) (u_109 (e := e8) (d := d8) (n := n8) hW gx ⟨by omega, by omega⟩ ⟨by omega, by omega⟩ ecu gcu q3831 g3832 ece8 gce8 (by assumption) (by assumption) (by omega) (by omega) (by omega) (by omega) hcu8 hcen8 hhdr8) (fun R3833 T3834 H3835 p3836 => ?_))
  obtain ⟨e3837, w3839, f3840, z3841, e3838, b3842, p3843⟩ := p3836
  subst e3837
  subst e3838
  show WL _ _ _ _ 973 [(4, vI i), (3, .ref o), (2, .ref m), (1, .ref x), (0, .ref 0)] [vI z3841] _ H3835
  refine wl_of hX hb cL_973 (rw_pop (pc' := 974) rfl rfl ?_)
  refine wl_of hX hb cL_974 (rw_aload_n (pc' := 975) (v := .ref m) rfl rfl rfl ?_)
  refine wl_of hX hb cL_975 (rw_aload_n (pc' := 976) (v := .ref 0) rfl rfl rfl ?_)
  refine wl_of hX hb cL_976 (rw_iload (pc' := 978) (z := i) rfl rfl ?_)
  refine wl_of hX hb cL_978 (rw_iconst (pc' := 979) rfl ?_)
  refine wl_of hX hb cL_979 (rw_iadd (pc' := 980) rfl ?_)
  have k3847 : H3835 0 ((i + 1).toNat) = H 0 ((i + 1).toNat) := (f3840 0 ((i + 1).toNat) _ g0 (wmem_s rfl))
  refine wl_of hX hb cL_980 (xa_I (so := 0) (pc' := 981) (a := 0) w3839 g0 (wsh_s _) (by omega) (wty_s _ _) (by omega) (by omega) rfl (fun b3845 b3846 => ?_))
  refine wl_of hX hb cL_981 (rw_aload_n (pc' := 982) (v := .ref 0) rfl rfl rfl ?_)
  refine wl_of hX hb cL_982 (rw_iload (pc' := 984) (z := i) rfl rfl ?_)
  refine wl_of hX hb cL_984 (rw_iconst (pc' := 985) rfl ?_)
  refine wl_of hX hb cL_985 (rw_iadd (pc' := 986) rfl ?_)
  have k3850 : H3835 0 ((i + 2).toNat) = H 0 ((i + 2).toNat) := (f3840 0 ((i + 2).toNat) _ g0 (wmem_s rfl))
  refine wl_of hX hb cL_986 (xa_I (so := 0) (pc' := 987) (a := 0) w3839 g0 (wsh_s _) (by omega) (wty_s _ _) (by omega) (by omega) rfl (fun b3848 b3849 => ?_))
  have k3851 : wKI H3835 m = wKI H m := (wKI_fr hW gm f3840 rfl)
  have k3852 : H3835 x 9 = H x 9 := (f3840 x 9 _ gx rfl)
  have k3853 : H3835 m 6 = H m 6 := (f3840 m 6 _ gm rfl)
  have k3854 : H3835 x 11 = H x 11 := (f3840 x 11 _ gx rfl)
  have k3855 : H3835 m 13 = H m 13 := (f3840 m 13 _ gm rfl)
  have k3856 : H3835 x 8 = H x 8 := (f3840 x 8 _ gx rfl)
  have k3857 : H3835 m 3 = H m 3 := (f3840 m 3 _ gm rfl)
  rw [show H3835 0 ((i + 2).toNat) = H 0 ((i + 2).toNat) by omega]
  rw [show H3835 0 ((i + 1).toNat) = H 0 ((i + 1).toNat) by omega]
  have h3858 : RB T H3835 m e8 d8 := (RB_fr hW gm f3840 rfl hrb8)
  have h3859 : KNN T H3835 m e8 d8 := (KNN_fr hW gm f3840 rfl hknn8)
  refine wl_of hX hb cL_987 (xc_V (pc' := 990) (r := m) (as := [vI (H 0 ((i + 1).toNat)), vI (H 0 ((i + 2).toNat))]) (st := []) (lm_11_129) rfl rfl (Nat.le_of_ble_eq_true rfl) w3839 gm sh_42 (by decide) rfl (by decide) (u_259 (e := e8) (d := d8) w3839 gm ⟨by omega, by omega⟩ ⟨by omega, by omega⟩ (by omega) (by assumption) (by assumption) (by assumption) (by assumption) h3858 h3859) (fun R3860 T3861 H3862 p3863 => ?_))
  obtain ⟨e3864, w3866, f3867, z3868, e3865, b3869, p3870⟩ := p3863
  subst e3864
  subst e3865
  obtain ⟨a3871, a3872⟩ := p3870
  show WL _ _ _ _ 990 [(4, vI i), (3, .ref o), (2, .ref m), (1, .ref x), (0, .ref 0)] [vI z3868] _ H3862
  refine wl_of hX hb cL_990 (rw_pop (pc' := 991) rfl rfl ?_)
  refine wl_of hX hb cL_991 (rw_goto (p1 := 1653) (by decide) ?_)
  have k3873 : H3862 x 9 = H3835 x 9 := (f3867 x 9 _ gx rfl)
  have k3874 : H3862 m 6 = H3835 m 6 := (f3867 m 6 _ gm rfl)
  have k3875 : H3862 x 11 = H3835 x 11 := (f3867 x 11 _ gx rfl)
  have k3876 : H3862 m 13 = H3835 m 13 := (f3867 m 13 _ gm rfl)
  have k3877 : H3862 x 8 = H3835 x 8 := (f3867 x 8 _ gx rfl)
  have k3878 : H3862 m 3 = H3835 m 3 := (f3867 m 3 _ gm rfl)
  have k3879 : H3862 x 0 = H x 0 := ((f3867 x 0 _ gx rfl).trans (f3840 x 0 _ gx rfl))
  have q3880 : H3862 x 0 = (tc : Int) := k3879.trans e0
  have k3881 : H3862 m 5 = H m 5 := ((f3867 m 5 _ gm rfl).trans (f3840 m 5 _ gm rfl))
  have q3882 : H3862 m 5 = (tm : Int) := k3881.trans em
  have k3883 : H3862 x 6 = H x 6 := ((f3867 x 6 _ gx rfl).trans (f3840 x 6 _ gx rfl))
  have q3884 : H3862 x 6 = (cu : Int) := k3883.trans ecu
  have k3885 : H3862 x 7 = H x 7 := ((f3867 x 7 _ gx rfl).trans (f3840 x 7 _ gx rfl))
  have q3886 : H3862 x 7 = (dr : Int) := k3885.trans edr
  have h3887 : CEN T H3862 ce8 e8 d8 := (CEN_fr w3839 gce8 f3867 rfl p3843)
  have h3888 : TP T H3862 tc B := (TP_fr w3839 gtc f3867 rfl (TP_fr hW gtc f3840 rfl htc))
  have h3889 : TM T H3862 tm B := (TM_fr w3839 gtm f3867 rfl (TM_fr hW gtm f3840 rfl htm))
  have h3890 : DD T H3862 cu  := (DD_fr w3839 gcu f3867 rfl (DD_fr hW gcu f3840 rfl hcu))
  have h3891 : DD T H3862 dr  := (DD_fr w3839 gdr f3867 rfl (DD_fr hW gdr f3840 rfl hdr))
  have h3892 : DE T H3862 cu  := (DE_fr w3839 gcu f3867 rfl (DE_fr hW gcu f3840 rfl hdec))
  have h3893 : DE T H3862 dr  := (DE_fr w3839 gdr f3867 rfl (DE_fr hW gdr f3840 rfl hded))
  have h3894 : SP T H3862 x C8 := (SP_fr w3839 gx f3867 rfl (SP_fr hW gx f3840 rfl hsp))
  have h3895 : CU T H3862 cu e8 d8 n8 := (CU_fr w3839 gcu f3867 rfl (CU_fr hW gcu f3840 rfl hcu8))
  have h3896 : CY T H3862 cu (d8 0 3) g8 (H cu 17) := (CY_fr w3839 gcu f3867 rfl (CY_fr hW gcu f3840 rfl h3828))
  have k3897 : H3862 x 3 = H x 3 := ((f3867 x 3 _ gx rfl).trans (f3840 x 3 _ gx rfl))
  have q3898 : H3862 x 3 = (ce8 : Int) := k3897.trans ece8
  have h3899 : HDR T H3862 ce8  := (HDR_fr w3839 gce8 f3867 rfl (HDR_fr hW gce8 f3840 rfl hhdr8))
  have h3900 : RY T H3862 m (d8 0 3) g8 (H m 32) := (RY_fr w3839 gm f3867 rfl (RY_fr hW gm f3840 rfl h3829))
  have h3901 : RB T H3862 m e8 d8 := (RB_fr w3839 gm f3867 rfl h3858)
  exact WL.loc hX (by simp) (next T H3862 ⟨⟨w3866, g0, gx, gm, go, by omega, by omega⟩, ⟨_, tc, tm, cu, dr, _, _, _, _, _, ce8, q3880, gtc, h3888, q3882, gtm, h3889, q3884, gcu, q3886, gdr, h3890, h3891, h3892, h3893, h3894, hC1, hC2, h3895, h3901, (h3896).1, (h3900).1, hE, hZ, (by omega), (by assumption), (by omega), (by first | assumption | exact SG_0), q3898, gce8, h3887, h3899, a3872, gm⟩, by omega, by omega⟩ (by omega) (by omega))
set_option maxHeartbeats 4000000 in
theorem wl_c26 {kt : Nat → Option mc_E} {CB SB : Nat} {X : mc_S → Prop} {T : wq_T} {H : wq_H} {Len x m o : Nat} {i : Int} (hX : wlX kt CB SB X) (hb : T.2.1 ≤ CB ∧ T.2.2.1 ≤ SB) (hI : wlJ Len x m o T H) (hL : Len ≤ 3072) (hi : 0 ≤ i ∧ i + 6 ≤ Len) (hb2 : T.2.1 + 20 ≤ CB ∧ T.2.2.1 + 500 ≤ SB)  (next : ∀ T' H', wlJ Len x m o T' H' → T'.2.1 ≤ T.2.1 + 20 → T'.2.2.1 ≤ T.2.2.1 + 500 → WL kt CB SB X 1653 (wlL i x m o) [] T' H') : WL kt CB SB X 994 (wlL i x m o) [] T H := by
  obtain ⟨⟨hW, g0, gx, gm, go, hK, hr⟩, hXI, hY1, hY2⟩ := hI
  refine wl_of hX hb cL_994 (rw_aload_n (pc' := 995) (v := .ref x) rfl rfl rfl ?_)
  refine wl_of hX hb cL_995 (rw_aload_n (pc' := 996) (v := .ref 0) rfl rfl rfl ?_)
  refine wl_of hX hb cL_996 (rw_iload (pc' := 998) (z := i) rfl rfl ?_)
  refine wl_of hX hb cL_998 (rw_iconst (pc' := 999) rfl ?_)
  refine wl_of hX hb cL_999 (rw_iadd (pc' := 1000) rfl ?_)
  refine wl_of hX hb cL_1000 (xa_I (so := 0) (pc' := 1001) (a := 0) hW g0 (wsh_s _) (by omega) (wty_s _ _) (by omega) (by omega) rfl (fun b3902 b3903 => ?_))
  obtain ⟨B, tc, tm, cu, dr, C8, e8, d8, n8, g8, ce8, e0, gtc, htc, em, gtm, htm, ecu, gcu, edr, gdr, hcu, hdr, hdec, hded, hsp, hC1, hC2, hcu8, hrb8, hcg8, hmn8, hE, hZ, hn8, hXA, hV8, hSG, ece8, gce8, hcen8, hhdr8, hknn8, -⟩ := hXI
  have hN3 := RB_n3 hrb8
  have hE13 : ∀ h : Nat, h < 24 → 0 ≤ e8 13 h ∧ e8 13 h ≤ 100 := fun k hk => by
    obtain ⟨s, h1, h2, h3⟩ := hcu8.1.2.2.1
    exact ⟨(h3 k hk).1, (h3 k hk).2.1⟩
  have hXW := hXA.1
  have hXN := hXA.2
  have hE0 : e8 0 3 = d8 0 3 ∧ e8 0 0 = d8 0 0 := by
    have h := hE 0 (by decide)
    exact ⟨congrFun h 3, congrFun h 0⟩
  have u3904 := CU_k hcu8
  have h3905 : CY T H cu (d8 0 3) g8 (H cu 17) := ⟨hcg8, rfl⟩
  have h3906 : RY T H m (d8 0 3) g8 (H m 32) := ⟨hmn8, rfl⟩
  obtain ⟨t9, ht9⟩ : ∃ t : Int, t = H x 9 := ⟨_, rfl⟩
  obtain ⟨y9, hy9⟩ : ∃ y : Int, y = H 0 ((i + 1).toNat) := ⟨_, rfl⟩
  obtain ⟨r3907, q3908, g3909⟩ := hW.ref gx (t' := 6) (n := 13) (j := 2) (p := 0) (q := 0) rfl (by decide) rfl
  refine wl_of hX hb cL_1001 (xc_V (pc' := 1004) (r := x) (as := [vI (H 0 ((i + 1).toNat))]) (st := []) (lm_11_130) rfl rfl (Nat.le_of_ble_eq_true rfl) hW gx sh_1 (by decide) rfl (by decide) (u_112 (e := e8) (d := d8) (n := n8) hW gx ⟨by omega, by omega⟩ ecu gcu q3908 g3909 ece8 gce8 (by assumption) (by assumption) (by omega) (by omega) (by omega) (by omega) hcu8 hcen8 hhdr8) (fun R3910 T3911 H3912 p3913 => ?_))
  obtain ⟨e3914, w3916, f3917, z3918, e3915, b3919, p3920⟩ := p3913
  subst e3914
  subst e3915
  show WL _ _ _ _ 1004 [(4, vI i), (3, .ref o), (2, .ref m), (1, .ref x), (0, .ref 0)] [vL z3918] _ H3912
  refine wl_of hX hb cL_1004 (rw_pop2 (pc' := 1005) rfl rfl ?_)
  refine wl_of hX hb cL_1005 (rw_aload_n (pc' := 1006) (v := .ref m) rfl rfl rfl ?_)
  refine wl_of hX hb cL_1006 (rw_aload_n (pc' := 1007) (v := .ref 0) rfl rfl rfl ?_)
  refine wl_of hX hb cL_1007 (rw_iload (pc' := 1009) (z := i) rfl rfl ?_)
  refine wl_of hX hb cL_1009 (rw_iconst (pc' := 1010) rfl ?_)
  refine wl_of hX hb cL_1010 (rw_iadd (pc' := 1011) rfl ?_)
  have k3924 : H3912 0 ((i + 1).toNat) = H 0 ((i + 1).toNat) := (f3917 0 ((i + 1).toNat) _ g0 (wmem_s rfl))
  refine wl_of hX hb cL_1011 (xa_I (so := 0) (pc' := 1012) (a := 0) w3916 g0 (wsh_s _) (by omega) (wty_s _ _) (by omega) (by omega) rfl (fun b3922 b3923 => ?_))
  have k3925 : wKI H3912 m = wKI H m := (wKI_fr hW gm f3917 rfl)
  have k3926 : H3912 x 9 = H x 9 := (f3917 x 9 _ gx rfl)
  have k3927 : H3912 m 6 = H m 6 := (f3917 m 6 _ gm rfl)
  have k3928 : H3912 x 11 = H x 11 := (f3917 x 11 _ gx rfl)
  have k3929 : H3912 m 13 = H m 13 := (f3917 m 13 _ gm rfl)
  have k3930 : H3912 x 8 = H x 8 := (f3917 x 8 _ gx rfl)
  have k3931 : H3912 m 3 = H m 3 := (f3917 m 3 _ gm rfl)
  rw [show H3912 0 ((i + 1).toNat) = H 0 ((i + 1).toNat) by omega]
  have h3932 : RB T H3912 m e8 d8 := (RB_fr hW gm f3917 rfl hrb8)
  have h3933 : KNN T H3912 m e8 d8 := (KNN_fr hW gm f3917 rfl hknn8)
  refine wl_of hX hb cL_1012 (xc_V (pc' := 1015) (r := m) (as := [vI (H 0 ((i + 1).toNat))]) (st := []) (lm_11_134) rfl rfl (Nat.le_of_ble_eq_true rfl) w3916 gm sh_42 (by decide) rfl (by decide) (u_260 (e := e8) (d := d8) w3916 gm ⟨by omega, by omega⟩ (by omega) (by assumption) (by assumption) (by assumption) (by assumption) h3932 h3933) (fun R3934 T3935 H3936 p3937 => ?_))
  obtain ⟨e3938, w3940, f3941, z3942, e3939, b3943, p3944⟩ := p3937
  subst e3938
  subst e3939
  obtain ⟨a3945, a3946⟩ := p3944
  show WL _ _ _ _ 1015 [(4, vI i), (3, .ref o), (2, .ref m), (1, .ref x), (0, .ref 0)] [vL z3942] _ H3936
  refine wl_of hX hb cL_1015 (rw_pop2 (pc' := 1016) rfl rfl ?_)
  refine wl_of hX hb cL_1016 (rw_goto (p1 := 1653) (by decide) ?_)
  have k3947 : H3936 x 9 = H3912 x 9 := (f3941 x 9 _ gx rfl)
  have k3948 : H3936 m 6 = H3912 m 6 := (f3941 m 6 _ gm rfl)
  have k3949 : H3936 x 11 = H3912 x 11 := (f3941 x 11 _ gx rfl)
  have k3950 : H3936 m 13 = H3912 m 13 := (f3941 m 13 _ gm rfl)
  have k3951 : H3936 x 8 = H3912 x 8 := (f3941 x 8 _ gx rfl)
  have k3952 : H3936 m 3 = H3912 m 3 := (f3941 m 3 _ gm rfl)
  have k3953 : H3936 x 0 = H x 0 := ((f3941 x 0 _ gx rfl).trans (f3917 x 0 _ gx rfl))
  have q3954 : H3936 x 0 = (tc : Int) := k3953.trans e0
  have k3955 : H3936 m 5 = H m 5 := ((f3941 m 5 _ gm rfl).trans (f3917 m 5 _ gm rfl))
  have q3956 : H3936 m 5 = (tm : Int) := k3955.trans em
  have k3957 : H3936 x 6 = H x 6 := ((f3941 x 6 _ gx rfl).trans (f3917 x 6 _ gx rfl))
  have q3958 : H3936 x 6 = (cu : Int) := k3957.trans ecu
  have k3959 : H3936 x 7 = H x 7 := ((f3941 x 7 _ gx rfl).trans (f3917 x 7 _ gx rfl))
  have q3960 : H3936 x 7 = (dr : Int) := k3959.trans edr
  have h3961 : CEN T H3936 ce8 e8 d8 := (CEN_fr w3916 gce8 f3941 rfl p3920)
  have h3962 : TP T H3936 tc B := (TP_fr w3916 gtc f3941 rfl (TP_fr hW gtc f3917 rfl htc))
  have h3963 : TM T H3936 tm B := (TM_fr w3916 gtm f3941 rfl (TM_fr hW gtm f3917 rfl htm))
  have h3964 : DD T H3936 cu  := (DD_fr w3916 gcu f3941 rfl (DD_fr hW gcu f3917 rfl hcu))
  have h3965 : DD T H3936 dr  := (DD_fr w3916 gdr f3941 rfl (DD_fr hW gdr f3917 rfl hdr))
  have h3966 : DE T H3936 cu  := (DE_fr w3916 gcu f3941 rfl (DE_fr hW gcu f3917 rfl hdec))
  have h3967 : DE T H3936 dr  := (DE_fr w3916 gdr f3941 rfl (DE_fr hW gdr f3917 rfl hded))
  have h3968 : SP T H3936 x C8 := (SP_fr w3916 gx f3941 rfl (SP_fr hW gx f3917 rfl hsp))
  have h3969 : CU T H3936 cu e8 d8 n8 := (CU_fr w3916 gcu f3941 rfl (CU_fr hW gcu f3917 rfl hcu8))
  have h3970 : CY T H3936 cu (d8 0 3) g8 (H cu 17) := (CY_fr w3916 gcu f3941 rfl (CY_fr hW gcu f3917 rfl h3905))
  have k3971 : H3936 x 3 = H x 3 := ((f3941 x 3 _ gx rfl).trans (f3917 x 3 _ gx rfl))
  have q3972 : H3936 x 3 = (ce8 : Int) := k3971.trans ece8
  have h3973 : HDR T H3936 ce8  := (HDR_fr w3916 gce8 f3941 rfl (HDR_fr hW gce8 f3917 rfl hhdr8))
  have h3974 : RY T H3936 m (d8 0 3) g8 (H m 32) := (RY_fr w3916 gm f3941 rfl (RY_fr hW gm f3917 rfl h3906))
  have h3975 : RB T H3936 m e8 d8 := (RB_fr w3916 gm f3941 rfl h3932)
  exact WL.loc hX (by simp) (next T H3936 ⟨⟨w3940, g0, gx, gm, go, by omega, by omega⟩, ⟨_, tc, tm, cu, dr, _, _, _, _, _, ce8, q3954, gtc, h3962, q3956, gtm, h3963, q3958, gcu, q3960, gdr, h3964, h3965, h3966, h3967, h3968, hC1, hC2, h3969, h3975, (h3970).1, (h3974).1, hE, hZ, (by omega), (by assumption), (by omega), (by first | assumption | exact SG_0), q3972, gce8, h3961, h3973, a3946, gm⟩, by omega, by omega⟩ (by omega) (by omega))
set_option maxHeartbeats 4000000 in
theorem wl_c27 {kt : Nat → Option mc_E} {CB SB : Nat} {X : mc_S → Prop} {T : wq_T} {H : wq_H} {Len x m o : Nat} {i : Int} (hX : wlX kt CB SB X) (hb : T.2.1 ≤ CB ∧ T.2.2.1 ≤ SB) (hI : wlJ Len x m o T H) (hL : Len ≤ 3072) (hi : 0 ≤ i ∧ i + 6 ≤ Len) (hb2 : T.2.1 + 20 ≤ CB ∧ T.2.2.1 + 500 ≤ SB)  (next : ∀ T' H', wlJ Len x m o T' H' → T'.2.1 ≤ T.2.1 + 20 → T'.2.2.1 ≤ T.2.2.1 + 500 → WL kt CB SB X 1653 (wlL i x m o) [] T' H') : WL kt CB SB X 1019 (wlL i x m o) [] T H := by
  obtain ⟨⟨hW, g0, gx, gm, go, hK, hr⟩, hXI, hY1, hY2⟩ := hI
  refine wl_of hX hb cL_1019 (rw_aload_n (pc' := 1020) (v := .ref x) rfl rfl rfl ?_)
  refine wl_of hX hb cL_1020 (rw_aload_n (pc' := 1021) (v := .ref 0) rfl rfl rfl ?_)
  refine wl_of hX hb cL_1021 (rw_iload (pc' := 1023) (z := i) rfl rfl ?_)
  refine wl_of hX hb cL_1023 (rw_iconst (pc' := 1024) rfl ?_)
  refine wl_of hX hb cL_1024 (rw_iadd (pc' := 1025) rfl ?_)
  refine wl_of hX hb cL_1025 (xa_I (so := 0) (pc' := 1026) (a := 0) hW g0 (wsh_s _) (by omega) (wty_s _ _) (by omega) (by omega) rfl (fun b3976 b3977 => ?_))
  refine wl_of hX hb cL_1026 (rw_aload_n (pc' := 1027) (v := .ref 0) rfl rfl rfl ?_)
  refine wl_of hX hb cL_1027 (rw_iload (pc' := 1029) (z := i) rfl rfl ?_)
  refine wl_of hX hb cL_1029 (rw_iconst (pc' := 1030) rfl ?_)
  refine wl_of hX hb cL_1030 (rw_iadd (pc' := 1031) rfl ?_)
  refine wl_of hX hb cL_1031 (xa_I (so := 0) (pc' := 1032) (a := 0) hW g0 (wsh_s _) (by omega) (wty_s _ _) (by omega) (by omega) rfl (fun b3978 b3979 => ?_))
  obtain ⟨B, tc, tm, cu, dr, C8, e8, d8, n8, g8, ce8, e0, gtc, htc, em, gtm, htm, ecu, gcu, edr, gdr, hcu, hdr, hdec, hded, hsp, hC1, hC2, hcu8, hrb8, hcg8, hmn8, hE, hZ, hn8, hXA, hV8, hSG, ece8, gce8, hcen8, hhdr8, hknn8, -⟩ := hXI
  have hN3 := RB_n3 hrb8
  have hE13 : ∀ h : Nat, h < 24 → 0 ≤ e8 13 h ∧ e8 13 h ≤ 100 := fun k hk => by
    obtain ⟨s, h1, h2, h3⟩ := hcu8.1.2.2.1
    exact ⟨(h3 k hk).1, (h3 k hk).2.1⟩
  have hXW := hXA.1
  have hXN := hXA.2
  have hE0 : e8 0 3 = d8 0 3 ∧ e8 0 0 = d8 0 0 := by
    have h := hE 0 (by decide)
    exact ⟨congrFun h 3, congrFun h 0⟩
  have u3980 := CU_k hcu8
  have h3981 : CY T H cu (d8 0 3) g8 (H cu 17) := ⟨hcg8, rfl⟩
  have h3982 : RY T H m (d8 0 3) g8 (H m 32) := ⟨hmn8, rfl⟩
  obtain ⟨t9, ht9⟩ : ∃ t : Int, t = H x 9 := ⟨_, rfl⟩
  obtain ⟨y9, hy9⟩ : ∃ y : Int, y = H 0 ((i + 2).toNat) := ⟨_, rfl⟩
  obtain ⟨r3983, q3984, g3985⟩ := hW.ref gx (t' := 6) (n := 13) (j := 2) (p := 0) (q := 0) rfl (by decide) rfl
  refine wl_of hX hb cL_1032 (xc_V (pc' := 1035) (r := x) (as := [vI (H 0 ((i + 1).toNat)), vI (H 0 ((i + 2).toNat))]) (st := []) (lm_11_135) rfl rfl (Nat.le_of_ble_eq_true rfl) hW gx sh_1 (by decide) rfl (by decide) (u_114 (e := e8) (d := d8) (n := n8) hW gx ⟨by omega, by omega⟩ ⟨by omega, by omega⟩ ecu gcu q3984 g3985 ece8 gce8 (by assumption) (by assumption) (by omega) (by omega) (by omega) (by omega) hcu8 hcen8 hhdr8) (fun R3986 T3987 H3988 p3989 => ?_))
  obtain ⟨e3990, w3992, f3993, z3994, e3991, b3995, p3996⟩ := p3989
  subst e3990
  subst e3991
  show WL _ _ _ _ 1035 [(4, vI i), (3, .ref o), (2, .ref m), (1, .ref x), (0, .ref 0)] [vI z3994] _ H3988
  refine wl_of hX hb cL_1035 (rw_pop (pc' := 1036) rfl rfl ?_)
  refine wl_of hX hb cL_1036 (rw_aload_n (pc' := 1037) (v := .ref m) rfl rfl rfl ?_)
  refine wl_of hX hb cL_1037 (rw_aload_n (pc' := 1038) (v := .ref 0) rfl rfl rfl ?_)
  refine wl_of hX hb cL_1038 (rw_iload (pc' := 1040) (z := i) rfl rfl ?_)
  refine wl_of hX hb cL_1040 (rw_iconst (pc' := 1041) rfl ?_)
  refine wl_of hX hb cL_1041 (rw_iadd (pc' := 1042) rfl ?_)
  have k4000 : H3988 0 ((i + 1).toNat) = H 0 ((i + 1).toNat) := (f3993 0 ((i + 1).toNat) _ g0 (wmem_s rfl))
  refine wl_of hX hb cL_1042 (xa_I (so := 0) (pc' := 1043) (a := 0) w3992 g0 (wsh_s _) (by omega) (wty_s _ _) (by omega) (by omega) rfl (fun b3998 b3999 => ?_))
  refine wl_of hX hb cL_1043 (rw_aload_n (pc' := 1044) (v := .ref 0) rfl rfl rfl ?_)
  refine wl_of hX hb cL_1044 (rw_iload (pc' := 1046) (z := i) rfl rfl ?_)
  refine wl_of hX hb cL_1046 (rw_iconst (pc' := 1047) rfl ?_)
  refine wl_of hX hb cL_1047 (rw_iadd (pc' := 1048) rfl ?_)
  have k4003 : H3988 0 ((i + 2).toNat) = H 0 ((i + 2).toNat) := (f3993 0 ((i + 2).toNat) _ g0 (wmem_s rfl))
  refine wl_of hX hb cL_1048 (xa_I (so := 0) (pc' := 1049) (a := 0) w3992 g0 (wsh_s _) (by omega) (wty_s _ _) (by omega) (by omega) rfl (fun b4001 b4002 => ?_))
  have k4004 : wKI H3988 m = wKI H m := (wKI_fr hW gm f3993 rfl)
  have k4005 : H3988 x 9 = H x 9 := (f3993 x 9 _ gx rfl)
  have k4006 : H3988 m 6 = H m 6 := (f3993 m 6 _ gm rfl)
  have k4007 : H3988 x 11 = H x 11 := (f3993 x 11 _ gx rfl)
  have k4008 : H3988 m 13 = H m 13 := (f3993 m 13 _ gm rfl)
  have k4009 : H3988 x 8 = H x 8 := (f3993 x 8 _ gx rfl)
  have k4010 : H3988 m 3 = H m 3 := (f3993 m 3 _ gm rfl)
  rw [show H3988 0 ((i + 2).toNat) = H 0 ((i + 2).toNat) by omega]
  rw [show H3988 0 ((i + 1).toNat) = H 0 ((i + 1).toNat) by omega]
  have h4011 : RB T H3988 m e8 d8 := (RB_fr hW gm f3993 rfl hrb8)
  have h4012 : KNN T H3988 m e8 d8 := (KNN_fr hW gm f3993 rfl hknn8)
  refine wl_of hX hb cL_1049 (xc_V (pc' := 1052) (r := m) (as := [vI (H 0 ((i + 1).toNat)), vI (H 0 ((i + 2).toNat))]) (st := []) (lm_11_138) rfl rfl (Nat.le_of_ble_eq_true rfl) w3992 gm sh_42 (by decide) rfl (by decide) (u_261 (e := e8) (d := d8) w3992 gm ⟨by omega, by omega⟩ ⟨by omega, by omega⟩ (by omega) (by assumption) (by assumption) (by assumption) (by assumption) h4011 h4012) (fun R4013 T4014 H4015 p4016 => ?_))
  obtain ⟨e4017, w4019, f4020, z4021, e4018, b4022, p4023⟩ := p4016
  subst e4017
  subst e4018
  obtain ⟨a4024, a4025⟩ := p4023
  show WL _ _ _ _ 1052 [(4, vI i), (3, .ref o), (2, .ref m), (1, .ref x), (0, .ref 0)] [vI z4021] _ H4015
  refine wl_of hX hb cL_1052 (rw_pop (pc' := 1053) rfl rfl ?_)
  refine wl_of hX hb cL_1053 (rw_goto (p1 := 1653) (by decide) ?_)
  have k4026 : H4015 x 9 = H3988 x 9 := (f4020 x 9 _ gx rfl)
  have k4027 : H4015 m 6 = H3988 m 6 := (f4020 m 6 _ gm rfl)
  have k4028 : H4015 x 11 = H3988 x 11 := (f4020 x 11 _ gx rfl)
  have k4029 : H4015 m 13 = H3988 m 13 := (f4020 m 13 _ gm rfl)
  have k4030 : H4015 x 8 = H3988 x 8 := (f4020 x 8 _ gx rfl)
  have k4031 : H4015 m 3 = H3988 m 3 := (f4020 m 3 _ gm rfl)
  have k4032 : H4015 x 0 = H x 0 := ((f4020 x 0 _ gx rfl).trans (f3993 x 0 _ gx rfl))
  have q4033 : H4015 x 0 = (tc : Int) := k4032.trans e0
  have k4034 : H4015 m 5 = H m 5 := ((f4020 m 5 _ gm rfl).trans (f3993 m 5 _ gm rfl))
  have q4035 : H4015 m 5 = (tm : Int) := k4034.trans em
  have k4036 : H4015 x 6 = H x 6 := ((f4020 x 6 _ gx rfl).trans (f3993 x 6 _ gx rfl))
  have q4037 : H4015 x 6 = (cu : Int) := k4036.trans ecu
  have k4038 : H4015 x 7 = H x 7 := ((f4020 x 7 _ gx rfl).trans (f3993 x 7 _ gx rfl))
  have q4039 : H4015 x 7 = (dr : Int) := k4038.trans edr
  have h4040 : CEN T H4015 ce8 e8 d8 := (CEN_fr w3992 gce8 f4020 rfl p3996)
  have h4041 : TP T H4015 tc B := (TP_fr w3992 gtc f4020 rfl (TP_fr hW gtc f3993 rfl htc))
  have h4042 : TM T H4015 tm B := (TM_fr w3992 gtm f4020 rfl (TM_fr hW gtm f3993 rfl htm))
  have h4043 : DD T H4015 cu  := (DD_fr w3992 gcu f4020 rfl (DD_fr hW gcu f3993 rfl hcu))
  have h4044 : DD T H4015 dr  := (DD_fr w3992 gdr f4020 rfl (DD_fr hW gdr f3993 rfl hdr))
  have h4045 : DE T H4015 cu  := (DE_fr w3992 gcu f4020 rfl (DE_fr hW gcu f3993 rfl hdec))
  have h4046 : DE T H4015 dr  := (DE_fr w3992 gdr f4020 rfl (DE_fr hW gdr f3993 rfl hded))
  have h4047 : SP T H4015 x C8 := (SP_fr w3992 gx f4020 rfl (SP_fr hW gx f3993 rfl hsp))
  have h4048 : CU T H4015 cu e8 d8 n8 := (CU_fr w3992 gcu f4020 rfl (CU_fr hW gcu f3993 rfl hcu8))
  have h4049 : CY T H4015 cu (d8 0 3) g8 (H cu 17) := (CY_fr w3992 gcu f4020 rfl (CY_fr hW gcu f3993 rfl h3981))
  have k4050 : H4015 x 3 = H x 3 := ((f4020 x 3 _ gx rfl).trans (f3993 x 3 _ gx rfl))
  have q4051 : H4015 x 3 = (ce8 : Int) := k4050.trans ece8
  have h4052 : HDR T H4015 ce8  := (HDR_fr w3992 gce8 f4020 rfl (HDR_fr hW gce8 f3993 rfl hhdr8))
  have h4053 : RY T H4015 m (d8 0 3) g8 (H m 32) := (RY_fr w3992 gm f4020 rfl (RY_fr hW gm f3993 rfl h3982))
  have h4054 : RB T H4015 m e8 d8 := (RB_fr w3992 gm f4020 rfl h4011)
  exact WL.loc hX (by simp) (next T H4015 ⟨⟨w4019, g0, gx, gm, go, by omega, by omega⟩, ⟨_, tc, tm, cu, dr, _, _, _, _, _, ce8, q4033, gtc, h4041, q4035, gtm, h4042, q4037, gcu, q4039, gdr, h4043, h4044, h4045, h4046, h4047, hC1, hC2, h4048, h4054, (h4049).1, (h4053).1, hE, hZ, (by omega), (by assumption), (by omega), (by first | assumption | exact SG_0), q4051, gce8, h4040, h4052, a4025, gm⟩, by omega, by omega⟩ (by omega) (by omega))
set_option maxHeartbeats 4000000 in
theorem wl_c28 {kt : Nat → Option mc_E} {CB SB : Nat} {X : mc_S → Prop} {T : wq_T} {H : wq_H} {Len x m o : Nat} {i : Int} (hX : wlX kt CB SB X) (hb : T.2.1 ≤ CB ∧ T.2.2.1 ≤ SB) (hI : wlJ Len x m o T H) (hL : Len ≤ 3072) (hi : 0 ≤ i ∧ i + 6 ≤ Len) (hb2 : T.2.1 + 20 ≤ CB ∧ T.2.2.1 + 500 ≤ SB)  (next : ∀ T' H', wlJ Len x m o T' H' → T'.2.1 ≤ T.2.1 + 20 → T'.2.2.1 ≤ T.2.2.1 + 500 → WL kt CB SB X 1653 (wlL i x m o) [] T' H') : WL kt CB SB X 1056 (wlL i x m o) [] T H := by
  obtain ⟨⟨hW, g0, gx, gm, go, hK, hr⟩, hXI, hY1, hY2⟩ := hI
  refine wl_of hX hb cL_1056 (rw_aload_n (pc' := 1057) (v := .ref x) rfl rfl rfl ?_)
  refine wl_of hX hb cL_1057 (rw_aload_n (pc' := 1058) (v := .ref 0) rfl rfl rfl ?_)
  refine wl_of hX hb cL_1058 (rw_iload (pc' := 1060) (z := i) rfl rfl ?_)
  refine wl_of hX hb cL_1060 (rw_iconst (pc' := 1061) rfl ?_)
  refine wl_of hX hb cL_1061 (rw_iadd (pc' := 1062) rfl ?_)
  refine wl_of hX hb cL_1062 (xa_I (so := 0) (pc' := 1063) (a := 0) hW g0 (wsh_s _) (by omega) (wty_s _ _) (by omega) (by omega) rfl (fun b4055 b4056 => ?_))
  refine wl_of hX hb cL_1063 (rw_aload_n (pc' := 1064) (v := .ref 0) rfl rfl rfl ?_)
  refine wl_of hX hb cL_1064 (rw_iload (pc' := 1066) (z := i) rfl rfl ?_)
  refine wl_of hX hb cL_1066 (rw_iconst (pc' := 1067) rfl ?_)
  refine wl_of hX hb cL_1067 (rw_iadd (pc' := 1068) rfl ?_)
  refine wl_of hX hb cL_1068 (xa_I (so := 0) (pc' := 1069) (a := 0) hW g0 (wsh_s _) (by omega) (wty_s _ _) (by omega) (by omega) rfl (fun b4057 b4058 => ?_))
  refine wl_of hX hb cL_1069 (rw_if_eq (p1 := 1076) (p2 := 1072) (by decide) rfl ⟨by omega, by omega⟩ (fun c4059 => ?_) (fun c4059 => ?_))
  · refine wl_of hX hb cL_1076 (rw_iconst (pc' := 1077) rfl ?_)
    obtain ⟨B, tc, tm, cu, dr, C8, e8, d8, n8, g8, ce8, e0, gtc, htc, em, gtm, htm, ecu, gcu, edr, gdr, hcu, hdr, hdec, hded, hsp, hC1, hC2, hcu8, hrb8, hcg8, hmn8, hE, hZ, hn8, hXA, hV8, hSG, ece8, gce8, hcen8, hhdr8, hknn8, -⟩ := hXI
    have hN3 := RB_n3 hrb8
    have hE13 : ∀ h : Nat, h < 24 → 0 ≤ e8 13 h ∧ e8 13 h ≤ 100 := fun k hk => by
      obtain ⟨s, h1, h2, h3⟩ := hcu8.1.2.2.1
      exact ⟨(h3 k hk).1, (h3 k hk).2.1⟩
    have hXW := hXA.1
    have hXN := hXA.2
    have hE0 : e8 0 3 = d8 0 3 ∧ e8 0 0 = d8 0 0 := by
      have h := hE 0 (by decide)
      exact ⟨congrFun h 3, congrFun h 0⟩
    have u4060 := CU_k hcu8
    have h4061 : CY T H cu (d8 0 3) g8 (H cu 17) := ⟨hcg8, rfl⟩
    have h4062 : RY T H m (d8 0 3) g8 (H m 32) := ⟨hmn8, rfl⟩
    obtain ⟨t9, ht9⟩ : ∃ t : Int, t = H x 9 := ⟨_, rfl⟩
    obtain ⟨y9, hy9⟩ : ∃ y : Int, y = 0 := ⟨_, rfl⟩
    obtain ⟨r4063, q4064, g4065⟩ := hW.ref gx (t' := 6) (n := 13) (j := 2) (p := 0) (q := 0) rfl (by decide) rfl
    refine wl_of hX hb cL_1077 (xc_V (pc' := 1080) (r := x) (as := [vI (H 0 ((i + 1).toNat)), vI 0]) (st := []) (lm_11_139) rfl rfl (Nat.le_of_ble_eq_true rfl) hW gx sh_1 (by decide) rfl (by decide) (u_117 (e := e8) (d := d8) (n := n8) hW gx ⟨by omega, by omega⟩ ⟨by decide, by decide⟩ ecu gcu q4064 g4065 ece8 gce8 (by assumption) (by assumption) (by omega) (by omega) (by omega) (by omega) hcu8 hcen8 hhdr8) (fun R4066 T4067 H4068 p4069 => ?_))
    obtain ⟨e4070, w4072, f4073, z4074, e4071, b4075, p4076⟩ := p4069
    subst e4070
    subst e4071
    show WL _ _ _ _ 1080 [(4, vI i), (3, .ref o), (2, .ref m), (1, .ref x), (0, .ref 0)] [vI z4074] _ H4068
    refine wl_of hX hb cL_1080 (rw_pop (pc' := 1081) rfl rfl ?_)
    refine wl_of hX hb cL_1081 (rw_aload_n (pc' := 1082) (v := .ref m) rfl rfl rfl ?_)
    refine wl_of hX hb cL_1082 (rw_aload_n (pc' := 1083) (v := .ref 0) rfl rfl rfl ?_)
    refine wl_of hX hb cL_1083 (rw_iload (pc' := 1085) (z := i) rfl rfl ?_)
    refine wl_of hX hb cL_1085 (rw_iconst (pc' := 1086) rfl ?_)
    refine wl_of hX hb cL_1086 (rw_iadd (pc' := 1087) rfl ?_)
    have k4080 : H4068 0 ((i + 1).toNat) = H 0 ((i + 1).toNat) := (f4073 0 ((i + 1).toNat) _ g0 (wmem_s rfl))
    refine wl_of hX hb cL_1087 (xa_I (so := 0) (pc' := 1088) (a := 0) w4072 g0 (wsh_s _) (by omega) (wty_s _ _) (by omega) (by omega) rfl (fun b4078 b4079 => ?_))
    refine wl_of hX hb cL_1088 (rw_aload_n (pc' := 1089) (v := .ref 0) rfl rfl rfl ?_)
    refine wl_of hX hb cL_1089 (rw_iload (pc' := 1091) (z := i) rfl rfl ?_)
    refine wl_of hX hb cL_1091 (rw_iconst (pc' := 1092) rfl ?_)
    refine wl_of hX hb cL_1092 (rw_iadd (pc' := 1093) rfl ?_)
    have k4083 : H4068 0 ((i + 2).toNat) = H 0 ((i + 2).toNat) := (f4073 0 ((i + 2).toNat) _ g0 (wmem_s rfl))
    refine wl_of hX hb cL_1093 (xa_I (so := 0) (pc' := 1094) (a := 0) w4072 g0 (wsh_s _) (by omega) (wty_s _ _) (by omega) (by omega) rfl (fun b4081 b4082 => ?_))
    refine wl_of hX hb cL_1094 (rw_if_eq (p1 := 1101) (p2 := 1097) (by decide) rfl ⟨by omega, by omega⟩ (fun c4084 => ?_) (fun c4084 => ?_))
    · refine wl_of hX hb cL_1101 (rw_iconst (pc' := 1102) rfl ?_)
      have k4085 : wKI H4068 m = wKI H m := (wKI_fr hW gm f4073 rfl)
      have k4086 : H4068 x 9 = H x 9 := (f4073 x 9 _ gx rfl)
      have k4087 : H4068 m 6 = H m 6 := (f4073 m 6 _ gm rfl)
      have k4088 : H4068 x 11 = H x 11 := (f4073 x 11 _ gx rfl)
      have k4089 : H4068 m 13 = H m 13 := (f4073 m 13 _ gm rfl)
      have k4090 : H4068 x 8 = H x 8 := (f4073 x 8 _ gx rfl)
      have k4091 : H4068 m 3 = H m 3 := (f4073 m 3 _ gm rfl)
      rw [show H4068 0 ((i + 1).toNat) = H 0 ((i + 1).toNat) by omega]
      have h4092 : RB T H4068 m e8 d8 := (RB_fr hW gm f4073 rfl hrb8)
      have h4093 : KNN T H4068 m e8 d8 := (KNN_fr hW gm f4073 rfl hknn8)
      refine wl_of hX hb cL_1102 (xc_V (pc' := 1105) (r := m) (as := [vI (H 0 ((i + 1).toNat)), vI 0]) (st := []) (lm_11_142) rfl rfl (Nat.le_of_ble_eq_true rfl) w4072 gm sh_42 (by decide) rfl (by decide) (u_263 (e := e8) (d := d8) w4072 gm ⟨by omega, by omega⟩ ⟨by decide, by decide⟩ (by omega) (by assumption) (by assumption) (by assumption) (by assumption) h4092 h4093) (fun R4094 T4095 H4096 p4097 => ?_))
      obtain ⟨e4098, w4100, f4101, z4102, e4099, b4103, p4104⟩ := p4097
      subst e4098
      subst e4099
      obtain ⟨a4105, a4106⟩ := p4104
      show WL _ _ _ _ 1105 [(4, vI i), (3, .ref o), (2, .ref m), (1, .ref x), (0, .ref 0)] [vI z4102] _ H4096
      refine wl_of hX hb cL_1105 (rw_pop (pc' := 1106) rfl rfl ?_)
      refine wl_of hX hb cL_1106 (rw_goto (p1 := 1653) (by decide) ?_)
      have k4107 : H4096 x 9 = H4068 x 9 := (f4101 x 9 _ gx rfl)
      have k4108 : H4096 m 6 = H4068 m 6 := (f4101 m 6 _ gm rfl)
      have k4109 : H4096 x 11 = H4068 x 11 := (f4101 x 11 _ gx rfl)
      have k4110 : H4096 m 13 = H4068 m 13 := (f4101 m 13 _ gm rfl)
      have k4111 : H4096 x 8 = H4068 x 8 := (f4101 x 8 _ gx rfl)
      have k4112 : H4096 m 3 = H4068 m 3 := (f4101 m 3 _ gm rfl)
      have k4113 : H4096 x 0 = H x 0 := ((f4101 x 0 _ gx rfl).trans (f4073 x 0 _ gx rfl))
      have q4114 : H4096 x 0 = (tc : Int) := k4113.trans e0
      have k4115 : H4096 m 5 = H m 5 := ((f4101 m 5 _ gm rfl).trans (f4073 m 5 _ gm rfl))
      have q4116 : H4096 m 5 = (tm : Int) := k4115.trans em
      have k4117 : H4096 x 6 = H x 6 := ((f4101 x 6 _ gx rfl).trans (f4073 x 6 _ gx rfl))
      have q4118 : H4096 x 6 = (cu : Int) := k4117.trans ecu
      have k4119 : H4096 x 7 = H x 7 := ((f4101 x 7 _ gx rfl).trans (f4073 x 7 _ gx rfl))
      have q4120 : H4096 x 7 = (dr : Int) := k4119.trans edr
      have h4121 : CEN T H4096 ce8 e8 d8 := (CEN_fr w4072 gce8 f4101 rfl p4076)
      have h4122 : TP T H4096 tc B := (TP_fr w4072 gtc f4101 rfl (TP_fr hW gtc f4073 rfl htc))
      have h4123 : TM T H4096 tm B := (TM_fr w4072 gtm f4101 rfl (TM_fr hW gtm f4073 rfl htm))
      have h4124 : DD T H4096 cu  := (DD_fr w4072 gcu f4101 rfl (DD_fr hW gcu f4073 rfl hcu))
      have h4125 : DD T H4096 dr  := (DD_fr w4072 gdr f4101 rfl (DD_fr hW gdr f4073 rfl hdr))
      have h4126 : DE T H4096 cu  := (DE_fr w4072 gcu f4101 rfl (DE_fr hW gcu f4073 rfl hdec))
      have h4127 : DE T H4096 dr  := (DE_fr w4072 gdr f4101 rfl (DE_fr hW gdr f4073 rfl hded))
      have h4128 : SP T H4096 x C8 := (SP_fr w4072 gx f4101 rfl (SP_fr hW gx f4073 rfl hsp))
      have h4129 : CU T H4096 cu e8 d8 n8 := (CU_fr w4072 gcu f4101 rfl (CU_fr hW gcu f4073 rfl hcu8))
      have h4130 : CY T H4096 cu (d8 0 3) g8 (H cu 17) := (CY_fr w4072 gcu f4101 rfl (CY_fr hW gcu f4073 rfl h4061))
      have k4131 : H4096 x 3 = H x 3 := ((f4101 x 3 _ gx rfl).trans (f4073 x 3 _ gx rfl))
      have q4132 : H4096 x 3 = (ce8 : Int) := k4131.trans ece8
      have h4133 : HDR T H4096 ce8  := (HDR_fr w4072 gce8 f4101 rfl (HDR_fr hW gce8 f4073 rfl hhdr8))
      have h4134 : RY T H4096 m (d8 0 3) g8 (H m 32) := (RY_fr w4072 gm f4101 rfl (RY_fr hW gm f4073 rfl h4062))
      have h4135 : RB T H4096 m e8 d8 := (RB_fr w4072 gm f4101 rfl h4092)
      exact WL.loc hX (by simp) (next T H4096 ⟨⟨w4100, g0, gx, gm, go, by omega, by omega⟩, ⟨_, tc, tm, cu, dr, _, _, _, _, _, ce8, q4114, gtc, h4122, q4116, gtm, h4123, q4118, gcu, q4120, gdr, h4124, h4125, h4126, h4127, h4128, hC1, hC2, h4129, h4135, (h4130).1, (h4134).1, hE, hZ, (by omega), (by assumption), (by omega), (by first | assumption | exact SG_0), q4132, gce8, h4121, h4133, a4106, gm⟩, by omega, by omega⟩ (by omega) (by omega))
    · exfalso
      omega
  · refine wl_of hX hb cL_1072 (rw_iconst (pc' := 1073) rfl ?_)
    refine wl_of hX hb cL_1073 (rw_goto (p1 := 1077) (by decide) ?_)
    obtain ⟨B, tc, tm, cu, dr, C8, e8, d8, n8, g8, ce8, e0, gtc, htc, em, gtm, htm, ecu, gcu, edr, gdr, hcu, hdr, hdec, hded, hsp, hC1, hC2, hcu8, hrb8, hcg8, hmn8, hE, hZ, hn8, hXA, hV8, hSG, ece8, gce8, hcen8, hhdr8, hknn8, -⟩ := hXI
    have hN3 := RB_n3 hrb8
    have hE13 : ∀ h : Nat, h < 24 → 0 ≤ e8 13 h ∧ e8 13 h ≤ 100 := fun k hk => by
      obtain ⟨s, h1, h2, h3⟩ := hcu8.1.2.2.1
      exact ⟨(h3 k hk).1, (h3 k hk).2.1⟩
    have hXW := hXA.1
    have hXN := hXA.2
    have hE0 : e8 0 3 = d8 0 3 ∧ e8 0 0 = d8 0 0 := by
      have h := hE 0 (by decide)
      exact ⟨congrFun h 3, congrFun h 0⟩
    have u4136 := CU_k hcu8
    have h4137 : CY T H cu (d8 0 3) g8 (H cu 17) := ⟨hcg8, rfl⟩
    have h4138 : RY T H m (d8 0 3) g8 (H m 32) := ⟨hmn8, rfl⟩
    obtain ⟨t9, ht9⟩ : ∃ t : Int, t = H x 9 := ⟨_, rfl⟩
    obtain ⟨y9, hy9⟩ : ∃ y : Int, y = 1 := ⟨_, rfl⟩
    obtain ⟨r4139, q4140, g4141⟩ := hW.ref gx (t' := 6) (n := 13) (j := 2) (p := 0) (q := 0) rfl (by decide) rfl
    refine wl_of hX hb cL_1077 (xc_V (pc' := 1080) (r := x) (as := [vI (H 0 ((i + 1).toNat)), vI 1]) (st := []) (lm_11_139) rfl rfl (Nat.le_of_ble_eq_true rfl) hW gx sh_1 (by decide) rfl (by decide) (u_117 (e := e8) (d := d8) (n := n8) hW gx ⟨by omega, by omega⟩ ⟨by decide, by decide⟩ ecu gcu q4140 g4141 ece8 gce8 (by assumption) (by assumption) (by omega) (by omega) (by omega) (by omega) hcu8 hcen8 hhdr8) (fun R4142 T4143 H4144 p4145 => ?_))
    obtain ⟨e4146, w4148, f4149, z4150, e4147, b4151, p4152⟩ := p4145
    subst e4146
    subst e4147
    show WL _ _ _ _ 1080 [(4, vI i), (3, .ref o), (2, .ref m), (1, .ref x), (0, .ref 0)] [vI z4150] _ H4144
    refine wl_of hX hb cL_1080 (rw_pop (pc' := 1081) rfl rfl ?_)
    refine wl_of hX hb cL_1081 (rw_aload_n (pc' := 1082) (v := .ref m) rfl rfl rfl ?_)
    refine wl_of hX hb cL_1082 (rw_aload_n (pc' := 1083) (v := .ref 0) rfl rfl rfl ?_)
    refine wl_of hX hb cL_1083 (rw_iload (pc' := 1085) (z := i) rfl rfl ?_)
    refine wl_of hX hb cL_1085 (rw_iconst (pc' := 1086) rfl ?_)
    refine wl_of hX hb cL_1086 (rw_iadd (pc' := 1087) rfl ?_)
    have k4156 : H4144 0 ((i + 1).toNat) = H 0 ((i + 1).toNat) := (f4149 0 ((i + 1).toNat) _ g0 (wmem_s rfl))
    refine wl_of hX hb cL_1087 (xa_I (so := 0) (pc' := 1088) (a := 0) w4148 g0 (wsh_s _) (by omega) (wty_s _ _) (by omega) (by omega) rfl (fun b4154 b4155 => ?_))
    refine wl_of hX hb cL_1088 (rw_aload_n (pc' := 1089) (v := .ref 0) rfl rfl rfl ?_)
    refine wl_of hX hb cL_1089 (rw_iload (pc' := 1091) (z := i) rfl rfl ?_)
    refine wl_of hX hb cL_1091 (rw_iconst (pc' := 1092) rfl ?_)
    refine wl_of hX hb cL_1092 (rw_iadd (pc' := 1093) rfl ?_)
    have k4159 : H4144 0 ((i + 2).toNat) = H 0 ((i + 2).toNat) := (f4149 0 ((i + 2).toNat) _ g0 (wmem_s rfl))
    refine wl_of hX hb cL_1093 (xa_I (so := 0) (pc' := 1094) (a := 0) w4148 g0 (wsh_s _) (by omega) (wty_s _ _) (by omega) (by omega) rfl (fun b4157 b4158 => ?_))
    refine wl_of hX hb cL_1094 (rw_if_eq (p1 := 1101) (p2 := 1097) (by decide) rfl ⟨by omega, by omega⟩ (fun c4160 => ?_) (fun c4160 => ?_))
    · exfalso
      omega
    · refine wl_of hX hb cL_1097 (rw_iconst (pc' := 1098) rfl ?_)
      refine wl_of hX hb cL_1098 (rw_goto (p1 := 1102) (by decide) ?_)
      have k4212 : wKI H4144 m = wKI H m := (wKI_fr hW gm f4149 rfl)
      have k4213 : H4144 x 9 = H x 9 := (f4149 x 9 _ gx rfl)
      have k4214 : H4144 m 6 = H m 6 := (f4149 m 6 _ gm rfl)
      have k4215 : H4144 x 11 = H x 11 := (f4149 x 11 _ gx rfl)
      have k4216 : H4144 m 13 = H m 13 := (f4149 m 13 _ gm rfl)
      have k4217 : H4144 x 8 = H x 8 := (f4149 x 8 _ gx rfl)
      have k4218 : H4144 m 3 = H m 3 := (f4149 m 3 _ gm rfl)
      rw [show H4144 0 ((i + 1).toNat) = H 0 ((i + 1).toNat) by omega]
      have h4219 : RB T H4144 m e8 d8 := (RB_fr hW gm f4149 rfl hrb8)
      have h4220 : KNN T H4144 m e8 d8 := (KNN_fr hW gm f4149 rfl hknn8)
      refine wl_of hX hb cL_1102 (xc_V (pc' := 1105) (r := m) (as := [vI (H 0 ((i + 1).toNat)), vI 1]) (st := []) (lm_11_142) rfl rfl (Nat.le_of_ble_eq_true rfl) w4148 gm sh_42 (by decide) rfl (by decide) (u_263 (e := e8) (d := d8) w4148 gm ⟨by omega, by omega⟩ ⟨by decide, by decide⟩ (by omega) (by assumption) (by assumption) (by assumption) (by assumption) h4219 h4220) (fun R4221 T4222 H4223 p4224 => ?_))
      obtain ⟨e4225, w4227, f4228, z4229, e4226, b4230, p4231⟩ := p4224
      subst e4225
      subst e4226
      obtain ⟨a4232, a4233⟩ := p4231
      show WL _ _ _ _ 1105 [(4, vI i), (3, .ref o), (2, .ref m), (1, .ref x), (0, .ref 0)] [vI z4229] _ H4223
      refine wl_of hX hb cL_1105 (rw_pop (pc' := 1106) rfl rfl ?_)
      refine wl_of hX hb cL_1106 (rw_goto (p1 := 1653) (by decide) ?_)
      have k4234 : H4223 x 9 = H4144 x 9 := (f4228 x 9 _ gx rfl)
      have k4235 : H4223 m 6 = H4144 m 6 := (f4228 m 6 _ gm rfl)
      have k4236 : H4223 x 11 = H4144 x 11 := (f4228 x 11 _ gx rfl)
      have k4237 : H4223 m 13 = H4144 m 13 := (f4228 m 13 _ gm rfl)
      have k4238 : H4223 x 8 = H4144 x 8 := (f4228 x 8 _ gx rfl)
      have k4239 : H4223 m 3 = H4144 m 3 := (f4228 m 3 _ gm rfl)
      have k4240 : H4223 x 0 = H x 0 := ((f4228 x 0 _ gx rfl).trans (f4149 x 0 _ gx rfl))
      have q4241 : H4223 x 0 = (tc : Int) := k4240.trans e0
      have k4242 : H4223 m 5 = H m 5 := ((f4228 m 5 _ gm rfl).trans (f4149 m 5 _ gm rfl))
      have q4243 : H4223 m 5 = (tm : Int) := k4242.trans em
      have k4244 : H4223 x 6 = H x 6 := ((f4228 x 6 _ gx rfl).trans (f4149 x 6 _ gx rfl))
      have q4245 : H4223 x 6 = (cu : Int) := k4244.trans ecu
      have k4246 : H4223 x 7 = H x 7 := ((f4228 x 7 _ gx rfl).trans (f4149 x 7 _ gx rfl))
      have q4247 : H4223 x 7 = (dr : Int) := k4246.trans edr
      have h4248 : CEN T H4223 ce8 e8 d8 := (CEN_fr w4148 gce8 f4228 rfl p4152)
      have h4249 : TP T H4223 tc B := (TP_fr w4148 gtc f4228 rfl (TP_fr hW gtc f4149 rfl htc))
      have h4250 : TM T H4223 tm B := (TM_fr w4148 gtm f4228 rfl (TM_fr hW gtm f4149 rfl htm))
      have h4251 : DD T H4223 cu  := (DD_fr w4148 gcu f4228 rfl (DD_fr hW gcu f4149 rfl hcu))
      have h4252 : DD T H4223 dr  := (DD_fr w4148 gdr f4228 rfl (DD_fr hW gdr f4149 rfl hdr))
      have h4253 : DE T H4223 cu  := (DE_fr w4148 gcu f4228 rfl (DE_fr hW gcu f4149 rfl hdec))
      have h4254 : DE T H4223 dr  := (DE_fr w4148 gdr f4228 rfl (DE_fr hW gdr f4149 rfl hded))
      have h4255 : SP T H4223 x C8 := (SP_fr w4148 gx f4228 rfl (SP_fr hW gx f4149 rfl hsp))
      have h4256 : CU T H4223 cu e8 d8 n8 := (CU_fr w4148 gcu f4228 rfl (CU_fr hW gcu f4149 rfl hcu8))
      have h4257 : CY T H4223 cu (d8 0 3) g8 (H cu 17) := (CY_fr w4148 gcu f4228 rfl (CY_fr hW gcu f4149 rfl h4137))
      have k4258 : H4223 x 3 = H x 3 := ((f4228 x 3 _ gx rfl).trans (f4149 x 3 _ gx rfl))
      have q4259 : H4223 x 3 = (ce8 : Int) := k4258.trans ece8
      have h4260 : HDR T H4223 ce8  := (HDR_fr w4148 gce8 f4228 rfl (HDR_fr hW gce8 f4149 rfl hhdr8))
      have h4261 : RY T H4223 m (d8 0 3) g8 (H m 32) := (RY_fr w4148 gm f4228 rfl (RY_fr hW gm f4149 rfl h4138))
      have h4262 : RB T H4223 m e8 d8 := (RB_fr w4148 gm f4228 rfl h4219)
      exact WL.loc hX (by simp) (next T H4223 ⟨⟨w4227, g0, gx, gm, go, by omega, by omega⟩, ⟨_, tc, tm, cu, dr, _, _, _, _, _, ce8, q4241, gtc, h4249, q4243, gtm, h4250, q4245, gcu, q4247, gdr, h4251, h4252, h4253, h4254, h4255, hC1, hC2, h4256, h4262, (h4257).1, (h4261).1, hE, hZ, (by omega), (by assumption), (by omega), (by first | assumption | exact SG_0), q4259, gce8, h4248, h4260, a4233, gm⟩, by omega, by omega⟩ (by omega) (by omega))
set_option maxHeartbeats 4000000 in
theorem wl_c29 {kt : Nat → Option mc_E} {CB SB : Nat} {X : mc_S → Prop} {T : wq_T} {H : wq_H} {Len x m o : Nat} {i : Int} (hX : wlX kt CB SB X) (hb : T.2.1 ≤ CB ∧ T.2.2.1 ≤ SB) (hI : wlJ Len x m o T H) (hL : Len ≤ 3072) (hi : 0 ≤ i ∧ i + 6 ≤ Len) (hb2 : T.2.1 + 20 ≤ CB ∧ T.2.2.1 + 500 ≤ SB)  (next : ∀ T' H', wlJ Len x m o T' H' → T'.2.1 ≤ T.2.1 + 20 → T'.2.2.1 ≤ T.2.2.1 + 500 → WL kt CB SB X 1653 (wlL i x m o) [] T' H') : WL kt CB SB X 1109 (wlL i x m o) [] T H := by
  obtain ⟨⟨hW, g0, gx, gm, go, hK, hr⟩, hXI, hY1, hY2⟩ := hI
  refine wl_of hX hb cL_1109 (rw_aload_n (pc' := 1110) (v := .ref x) rfl rfl rfl ?_)
  refine wl_of hX hb cL_1110 (rw_aload_n (pc' := 1111) (v := .ref 0) rfl rfl rfl ?_)
  refine wl_of hX hb cL_1111 (rw_iload (pc' := 1113) (z := i) rfl rfl ?_)
  refine wl_of hX hb cL_1113 (rw_iconst (pc' := 1114) rfl ?_)
  refine wl_of hX hb cL_1114 (rw_iadd (pc' := 1115) rfl ?_)
  refine wl_of hX hb cL_1115 (xa_I (so := 0) (pc' := 1116) (a := 0) hW g0 (wsh_s _) (by omega) (wty_s _ _) (by omega) (by omega) rfl (fun b4263 b4264 => ?_))
  refine wl_of hX hb cL_1116 (rw_aload_n (pc' := 1117) (v := .ref 0) rfl rfl rfl ?_)
  refine wl_of hX hb cL_1117 (rw_iload (pc' := 1119) (z := i) rfl rfl ?_)
  refine wl_of hX hb cL_1119 (rw_iconst (pc' := 1120) rfl ?_)
  refine wl_of hX hb cL_1120 (rw_iadd (pc' := 1121) rfl ?_)
  refine wl_of hX hb cL_1121 (xa_I (so := 0) (pc' := 1122) (a := 0) hW g0 (wsh_s _) (by omega) (wty_s _ _) (by omega) (by omega) rfl (fun b4265 b4266 => ?_))
  refine wl_of hX hb cL_1122 (rw_if_eq (p1 := 1129) (p2 := 1125) (by decide) rfl ⟨by omega, by omega⟩ (fun c4267 => ?_) (fun c4267 => ?_))
  · refine wl_of hX hb cL_1129 (rw_iconst (pc' := 1130) rfl ?_)
    obtain ⟨B, tc, tm, cu, dr, C8, e8, d8, n8, g8, ce8, e0, gtc, htc, em, gtm, htm, ecu, gcu, edr, gdr, hcu, hdr, hdec, hded, hsp, hC1, hC2, hcu8, hrb8, hcg8, hmn8, hE, hZ, hn8, hXA, hV8, hSG, ece8, gce8, hcen8, hhdr8, hknn8, -⟩ := hXI
    have hN3 := RB_n3 hrb8
    have hE13 : ∀ h : Nat, h < 24 → 0 ≤ e8 13 h ∧ e8 13 h ≤ 100 := fun k hk => by
      obtain ⟨s, h1, h2, h3⟩ := hcu8.1.2.2.1
      exact ⟨(h3 k hk).1, (h3 k hk).2.1⟩
    have hXW := hXA.1
    have hXN := hXA.2
    have hE0 : e8 0 3 = d8 0 3 ∧ e8 0 0 = d8 0 0 := by
      have h := hE 0 (by decide)
      exact ⟨congrFun h 3, congrFun h 0⟩
    have u4268 := CU_k hcu8
    have h4269 : CY T H cu (d8 0 3) g8 (H cu 17) := ⟨hcg8, rfl⟩
    have h4270 : RY T H m (d8 0 3) g8 (H m 32) := ⟨hmn8, rfl⟩
    obtain ⟨t9, ht9⟩ : ∃ t : Int, t = H x 9 := ⟨_, rfl⟩
    obtain ⟨y9, hy9⟩ : ∃ y : Int, y = 0 := ⟨_, rfl⟩
    obtain ⟨r4271, q4272, g4273⟩ := hW.ref gx (t' := 6) (n := 13) (j := 2) (p := 0) (q := 0) rfl (by decide) rfl
    refine wl_of hX hb cL_1130 (xc_V (pc' := 1133) (r := x) (as := [vI (H 0 ((i + 1).toNat)), vI 0]) (st := []) (lm_11_143) rfl rfl (Nat.le_of_ble_eq_true rfl) hW gx sh_1 (by decide) rfl (by decide) (u_119 (e := e8) (d := d8) (n := n8) hW gx ⟨by omega, by omega⟩ ⟨by decide, by decide⟩ ecu gcu q4272 g4273 ece8 gce8 (by assumption) (by assumption) (by omega) (by omega) (by omega) (by omega) hcu8 hcen8 hhdr8) (fun R4274 T4275 H4276 p4277 => ?_))
    obtain ⟨e4278, w4280, f4281, z4282, e4279, b4283, p4284⟩ := p4277
    subst e4278
    subst e4279
    show WL _ _ _ _ 1133 [(4, vI i), (3, .ref o), (2, .ref m), (1, .ref x), (0, .ref 0)] [vI z4282] _ H4276
    refine wl_of hX hb cL_1133 (rw_pop (pc' := 1134) rfl rfl ?_)
    refine wl_of hX hb cL_1134 (rw_aload_n (pc' := 1135) (v := .ref m) rfl rfl rfl ?_)
    refine wl_of hX hb cL_1135 (rw_aload_n (pc' := 1136) (v := .ref 0) rfl rfl rfl ?_)
    refine wl_of hX hb cL_1136 (rw_iload (pc' := 1138) (z := i) rfl rfl ?_)
    refine wl_of hX hb cL_1138 (rw_iconst (pc' := 1139) rfl ?_)
    refine wl_of hX hb cL_1139 (rw_iadd (pc' := 1140) rfl ?_)
    have k4288 : H4276 0 ((i + 1).toNat) = H 0 ((i + 1).toNat) := (f4281 0 ((i + 1).toNat) _ g0 (wmem_s rfl))
    refine wl_of hX hb cL_1140 (xa_I (so := 0) (pc' := 1141) (a := 0) w4280 g0 (wsh_s _) (by omega) (wty_s _ _) (by omega) (by omega) rfl (fun b4286 b4287 => ?_))
    refine wl_of hX hb cL_1141 (rw_aload_n (pc' := 1142) (v := .ref 0) rfl rfl rfl ?_)
    refine wl_of hX hb cL_1142 (rw_iload (pc' := 1144) (z := i) rfl rfl ?_)
    refine wl_of hX hb cL_1144 (rw_iconst (pc' := 1145) rfl ?_)
    refine wl_of hX hb cL_1145 (rw_iadd (pc' := 1146) rfl ?_)
    have k4291 : H4276 0 ((i + 2).toNat) = H 0 ((i + 2).toNat) := (f4281 0 ((i + 2).toNat) _ g0 (wmem_s rfl))
    refine wl_of hX hb cL_1146 (xa_I (so := 0) (pc' := 1147) (a := 0) w4280 g0 (wsh_s _) (by omega) (wty_s _ _) (by omega) (by omega) rfl (fun b4289 b4290 => ?_))
    refine wl_of hX hb cL_1147 (rw_if_eq (p1 := 1154) (p2 := 1150) (by decide) rfl ⟨by omega, by omega⟩ (fun c4292 => ?_) (fun c4292 => ?_))
    · refine wl_of hX hb cL_1154 (rw_iconst (pc' := 1155) rfl ?_)
      have k4293 : wKI H4276 m = wKI H m := (wKI_fr hW gm f4281 rfl)
      have k4294 : H4276 x 9 = H x 9 := (f4281 x 9 _ gx rfl)
      have k4295 : H4276 m 6 = H m 6 := (f4281 m 6 _ gm rfl)
      have k4296 : H4276 x 11 = H x 11 := (f4281 x 11 _ gx rfl)
      have k4297 : H4276 m 13 = H m 13 := (f4281 m 13 _ gm rfl)
      have k4298 : H4276 x 8 = H x 8 := (f4281 x 8 _ gx rfl)
      have k4299 : H4276 m 3 = H m 3 := (f4281 m 3 _ gm rfl)
      rw [show H4276 0 ((i + 1).toNat) = H 0 ((i + 1).toNat) by omega]
      have h4300 : RB T H4276 m e8 d8 := (RB_fr hW gm f4281 rfl hrb8)
      have h4301 : KNN T H4276 m e8 d8 := (KNN_fr hW gm f4281 rfl hknn8)
      refine wl_of hX hb cL_1155 (xc_V (pc' := 1158) (r := m) (as := [vI (H 0 ((i + 1).toNat)), vI 0]) (st := []) (lm_11_146) rfl rfl (Nat.le_of_ble_eq_true rfl) w4280 gm sh_42 (by decide) rfl (by decide) (u_265 (e := e8) (d := d8) w4280 gm ⟨by omega, by omega⟩ ⟨by decide, by decide⟩ (by omega) (by assumption) (by assumption) (by assumption) (by assumption) h4300 h4301) (fun R4302 T4303 H4304 p4305 => ?_))
      obtain ⟨e4306, w4308, f4309, z4310, e4307, b4311, p4312⟩ := p4305
      subst e4306
      subst e4307
      obtain ⟨a4313, a4314⟩ := p4312
      show WL _ _ _ _ 1158 [(4, vI i), (3, .ref o), (2, .ref m), (1, .ref x), (0, .ref 0)] [vI z4310] _ H4304
      refine wl_of hX hb cL_1158 (rw_pop (pc' := 1159) rfl rfl ?_)
      refine wl_of hX hb cL_1159 (rw_goto (p1 := 1653) (by decide) ?_)
      have k4315 : H4304 x 9 = H4276 x 9 := (f4309 x 9 _ gx rfl)
      have k4316 : H4304 m 6 = H4276 m 6 := (f4309 m 6 _ gm rfl)
      have k4317 : H4304 x 11 = H4276 x 11 := (f4309 x 11 _ gx rfl)
      have k4318 : H4304 m 13 = H4276 m 13 := (f4309 m 13 _ gm rfl)
      have k4319 : H4304 x 8 = H4276 x 8 := (f4309 x 8 _ gx rfl)
      have k4320 : H4304 m 3 = H4276 m 3 := (f4309 m 3 _ gm rfl)
      have k4321 : H4304 x 0 = H x 0 := ((f4309 x 0 _ gx rfl).trans (f4281 x 0 _ gx rfl))
      have q4322 : H4304 x 0 = (tc : Int) := k4321.trans e0
      have k4323 : H4304 m 5 = H m 5 := ((f4309 m 5 _ gm rfl).trans (f4281 m 5 _ gm rfl))
      have q4324 : H4304 m 5 = (tm : Int) := k4323.trans em
      have k4325 : H4304 x 6 = H x 6 := ((f4309 x 6 _ gx rfl).trans (f4281 x 6 _ gx rfl))
      have q4326 : H4304 x 6 = (cu : Int) := k4325.trans ecu
      have k4327 : H4304 x 7 = H x 7 := ((f4309 x 7 _ gx rfl).trans (f4281 x 7 _ gx rfl))
      have q4328 : H4304 x 7 = (dr : Int) := k4327.trans edr
      have h4329 : CEN T H4304 ce8 e8 d8 := (CEN_fr w4280 gce8 f4309 rfl p4284)
      have h4330 : TP T H4304 tc B := (TP_fr w4280 gtc f4309 rfl (TP_fr hW gtc f4281 rfl htc))
      have h4331 : TM T H4304 tm B := (TM_fr w4280 gtm f4309 rfl (TM_fr hW gtm f4281 rfl htm))
      have h4332 : DD T H4304 cu  := (DD_fr w4280 gcu f4309 rfl (DD_fr hW gcu f4281 rfl hcu))
      have h4333 : DD T H4304 dr  := (DD_fr w4280 gdr f4309 rfl (DD_fr hW gdr f4281 rfl hdr))
      have h4334 : DE T H4304 cu  := (DE_fr w4280 gcu f4309 rfl (DE_fr hW gcu f4281 rfl hdec))
      have h4335 : DE T H4304 dr  := (DE_fr w4280 gdr f4309 rfl (DE_fr hW gdr f4281 rfl hded))
      have h4336 : SP T H4304 x C8 := (SP_fr w4280 gx f4309 rfl (SP_fr hW gx f4281 rfl hsp))
      have h4337 : CU T H4304 cu e8 d8 n8 := (CU_fr w4280 gcu f4309 rfl (CU_fr hW gcu f4281 rfl hcu8))
      have h4338 : CY T H4304 cu (d8 0 3) g8 (H cu 17) := (CY_fr w4280 gcu f4309 rfl (CY_fr hW gcu f4281 rfl h4269))
      have k4339 : H4304 x 3 = H x 3 := ((f4309 x 3 _ gx rfl).trans (f4281 x 3 _ gx rfl))
      have q4340 : H4304 x 3 = (ce8 : Int) := k4339.trans ece8
      have h4341 : HDR T H4304 ce8  := (HDR_fr w4280 gce8 f4309 rfl (HDR_fr hW gce8 f4281 rfl hhdr8))
      have h4342 : RY T H4304 m (d8 0 3) g8 (H m 32) := (RY_fr w4280 gm f4309 rfl (RY_fr hW gm f4281 rfl h4270))
      have h4343 : RB T H4304 m e8 d8 := (RB_fr w4280 gm f4309 rfl h4300)
      exact WL.loc hX (by simp) (next T H4304 ⟨⟨w4308, g0, gx, gm, go, by omega, by omega⟩, ⟨_, tc, tm, cu, dr, _, _, _, _, _, ce8, q4322, gtc, h4330, q4324, gtm, h4331, q4326, gcu, q4328, gdr, h4332, h4333, h4334, h4335, h4336, hC1, hC2, h4337, h4343, (h4338).1, (h4342).1, hE, hZ, (by omega), (by assumption), (by omega), (by first | assumption | exact SG_0), q4340, gce8, h4329, h4341, a4314, gm⟩, by omega, by omega⟩ (by omega) (by omega))
    · exfalso
      omega
  · refine wl_of hX hb cL_1125 (rw_iconst (pc' := 1126) rfl ?_)
    refine wl_of hX hb cL_1126 (rw_goto (p1 := 1130) (by decide) ?_)
    obtain ⟨B, tc, tm, cu, dr, C8, e8, d8, n8, g8, ce8, e0, gtc, htc, em, gtm, htm, ecu, gcu, edr, gdr, hcu, hdr, hdec, hded, hsp, hC1, hC2, hcu8, hrb8, hcg8, hmn8, hE, hZ, hn8, hXA, hV8, hSG, ece8, gce8, hcen8, hhdr8, hknn8, -⟩ := hXI
    have hN3 := RB_n3 hrb8
    have hE13 : ∀ h : Nat, h < 24 → 0 ≤ e8 13 h ∧ e8 13 h ≤ 100 := fun k hk => by
      obtain ⟨s, h1, h2, h3⟩ := hcu8.1.2.2.1
      exact ⟨(h3 k hk).1, (h3 k hk).2.1⟩
    have hXW := hXA.1
    have hXN := hXA.2
    have hE0 : e8 0 3 = d8 0 3 ∧ e8 0 0 = d8 0 0 := by
      have h := hE 0 (by decide)
      exact ⟨congrFun h 3, congrFun h 0⟩
    have u4344 := CU_k hcu8
    have h4345 : CY T H cu (d8 0 3) g8 (H cu 17) := ⟨hcg8, rfl⟩
    have h4346 : RY T H m (d8 0 3) g8 (H m 32) := ⟨hmn8, rfl⟩
    obtain ⟨t9, ht9⟩ : ∃ t : Int, t = H x 9 := ⟨_, rfl⟩
    obtain ⟨y9, hy9⟩ : ∃ y : Int, y = 1 := ⟨_, rfl⟩
    obtain ⟨r4347, q4348, g4349⟩ := hW.ref gx (t' := 6) (n := 13) (j := 2) (p := 0) (q := 0) rfl (by decide) rfl
    refine wl_of hX hb cL_1130 (xc_V (pc' := 1133) (r := x) (as := [vI (H 0 ((i + 1).toNat)), vI 1]) (st := []) (lm_11_143) rfl rfl (Nat.le_of_ble_eq_true rfl) hW gx sh_1 (by decide) rfl (by decide) (u_119 (e := e8) (d := d8) (n := n8) hW gx ⟨by omega, by omega⟩ ⟨by decide, by decide⟩ ecu gcu q4348 g4349 ece8 gce8 (by assumption) (by assumption) (by omega) (by omega) (by omega) (by omega) hcu8 hcen8 hhdr8) (fun R4350 T4351 H4352 p4353 => ?_))
    obtain ⟨e4354, w4356, f4357, z4358, e4355, b4359, p4360⟩ := p4353
    subst e4354
    subst e4355
    show WL _ _ _ _ 1133 [(4, vI i), (3, .ref o), (2, .ref m), (1, .ref x), (0, .ref 0)] [vI z4358] _ H4352
    refine wl_of hX hb cL_1133 (rw_pop (pc' := 1134) rfl rfl ?_)
    refine wl_of hX hb cL_1134 (rw_aload_n (pc' := 1135) (v := .ref m) rfl rfl rfl ?_)
    refine wl_of hX hb cL_1135 (rw_aload_n (pc' := 1136) (v := .ref 0) rfl rfl rfl ?_)
    refine wl_of hX hb cL_1136 (rw_iload (pc' := 1138) (z := i) rfl rfl ?_)
    refine wl_of hX hb cL_1138 (rw_iconst (pc' := 1139) rfl ?_)
    refine wl_of hX hb cL_1139 (rw_iadd (pc' := 1140) rfl ?_)
    have k4364 : H4352 0 ((i + 1).toNat) = H 0 ((i + 1).toNat) := (f4357 0 ((i + 1).toNat) _ g0 (wmem_s rfl))
    refine wl_of hX hb cL_1140 (xa_I (so := 0) (pc' := 1141) (a := 0) w4356 g0 (wsh_s _) (by omega) (wty_s _ _) (by omega) (by omega) rfl (fun b4362 b4363 => ?_))
    refine wl_of hX hb cL_1141 (rw_aload_n (pc' := 1142) (v := .ref 0) rfl rfl rfl ?_)
    refine wl_of hX hb cL_1142 (rw_iload (pc' := 1144) (z := i) rfl rfl ?_)
    refine wl_of hX hb cL_1144 (rw_iconst (pc' := 1145) rfl ?_)
    refine wl_of hX hb cL_1145 (rw_iadd (pc' := 1146) rfl ?_)
    have k4367 : H4352 0 ((i + 2).toNat) = H 0 ((i + 2).toNat) := (f4357 0 ((i + 2).toNat) _ g0 (wmem_s rfl))
    refine wl_of hX hb cL_1146 (xa_I (so := 0) (pc' := 1147) (a := 0) w4356 g0 (wsh_s _) (by omega) (wty_s _ _) (by omega) (by omega) rfl (fun b4365 b4366 => ?_))
    refine wl_of hX hb cL_1147 (rw_if_eq (p1 := 1154) (p2 := 1150) (by decide) rfl ⟨by omega, by omega⟩ (fun c4368 => ?_) (fun c4368 => ?_))
    · exfalso
      omega
    · refine wl_of hX hb cL_1150 (rw_iconst (pc' := 1151) rfl ?_)
      refine wl_of hX hb cL_1151 (rw_goto (p1 := 1155) (by decide) ?_)
      have k4420 : wKI H4352 m = wKI H m := (wKI_fr hW gm f4357 rfl)
      have k4421 : H4352 x 9 = H x 9 := (f4357 x 9 _ gx rfl)
      have k4422 : H4352 m 6 = H m 6 := (f4357 m 6 _ gm rfl)
      have k4423 : H4352 x 11 = H x 11 := (f4357 x 11 _ gx rfl)
      have k4424 : H4352 m 13 = H m 13 := (f4357 m 13 _ gm rfl)
      have k4425 : H4352 x 8 = H x 8 := (f4357 x 8 _ gx rfl)
      have k4426 : H4352 m 3 = H m 3 := (f4357 m 3 _ gm rfl)
      rw [show H4352 0 ((i + 1).toNat) = H 0 ((i + 1).toNat) by omega]
      have h4427 : RB T H4352 m e8 d8 := (RB_fr hW gm f4357 rfl hrb8)
      have h4428 : KNN T H4352 m e8 d8 := (KNN_fr hW gm f4357 rfl hknn8)
      refine wl_of hX hb cL_1155 (xc_V (pc' := 1158) (r := m) (as := [vI (H 0 ((i + 1).toNat)), vI 1]) (st := []) (lm_11_146) rfl rfl (Nat.le_of_ble_eq_true rfl) w4356 gm sh_42 (by decide) rfl (by decide) (u_265 (e := e8) (d := d8) w4356 gm ⟨by omega, by omega⟩ ⟨by decide, by decide⟩ (by omega) (by assumption) (by assumption) (by assumption) (by assumption) h4427 h4428) (fun R4429 T4430 H4431 p4432 => ?_))
      obtain ⟨e4433, w4435, f4436, z4437, e4434, b4438, p4439⟩ := p4432
      subst e4433
      subst e4434
      obtain ⟨a4440, a4441⟩ := p4439
      show WL _ _ _ _ 1158 [(4, vI i), (3, .ref o), (2, .ref m), (1, .ref x), (0, .ref 0)] [vI z4437] _ H4431
      refine wl_of hX hb cL_1158 (rw_pop (pc' := 1159) rfl rfl ?_)
      refine wl_of hX hb cL_1159 (rw_goto (p1 := 1653) (by decide) ?_)
      have k4442 : H4431 x 9 = H4352 x 9 := (f4436 x 9 _ gx rfl)
      have k4443 : H4431 m 6 = H4352 m 6 := (f4436 m 6 _ gm rfl)
      have k4444 : H4431 x 11 = H4352 x 11 := (f4436 x 11 _ gx rfl)
      have k4445 : H4431 m 13 = H4352 m 13 := (f4436 m 13 _ gm rfl)
      have k4446 : H4431 x 8 = H4352 x 8 := (f4436 x 8 _ gx rfl)
      have k4447 : H4431 m 3 = H4352 m 3 := (f4436 m 3 _ gm rfl)
      have k4448 : H4431 x 0 = H x 0 := ((f4436 x 0 _ gx rfl).trans (f4357 x 0 _ gx rfl))
      have q4449 : H4431 x 0 = (tc : Int) := k4448.trans e0
      have k4450 : H4431 m 5 = H m 5 := ((f4436 m 5 _ gm rfl).trans (f4357 m 5 _ gm rfl))
      have q4451 : H4431 m 5 = (tm : Int) := k4450.trans em
      have k4452 : H4431 x 6 = H x 6 := ((f4436 x 6 _ gx rfl).trans (f4357 x 6 _ gx rfl))
      have q4453 : H4431 x 6 = (cu : Int) := k4452.trans ecu
      have k4454 : H4431 x 7 = H x 7 := ((f4436 x 7 _ gx rfl).trans (f4357 x 7 _ gx rfl))
      have q4455 : H4431 x 7 = (dr : Int) := k4454.trans edr
      have h4456 : CEN T H4431 ce8 e8 d8 := (CEN_fr w4356 gce8 f4436 rfl p4360)
      have h4457 : TP T H4431 tc B := (TP_fr w4356 gtc f4436 rfl (TP_fr hW gtc f4357 rfl htc))
      have h4458 : TM T H4431 tm B := (TM_fr w4356 gtm f4436 rfl (TM_fr hW gtm f4357 rfl htm))
      have h4459 : DD T H4431 cu  := (DD_fr w4356 gcu f4436 rfl (DD_fr hW gcu f4357 rfl hcu))
      have h4460 : DD T H4431 dr  := (DD_fr w4356 gdr f4436 rfl (DD_fr hW gdr f4357 rfl hdr))
      have h4461 : DE T H4431 cu  := (DE_fr w4356 gcu f4436 rfl (DE_fr hW gcu f4357 rfl hdec))
      have h4462 : DE T H4431 dr  := (DE_fr w4356 gdr f4436 rfl (DE_fr hW gdr f4357 rfl hded))
      have h4463 : SP T H4431 x C8 := (SP_fr w4356 gx f4436 rfl (SP_fr hW gx f4357 rfl hsp))
      have h4464 : CU T H4431 cu e8 d8 n8 := (CU_fr w4356 gcu f4436 rfl (CU_fr hW gcu f4357 rfl hcu8))
      have h4465 : CY T H4431 cu (d8 0 3) g8 (H cu 17) := (CY_fr w4356 gcu f4436 rfl (CY_fr hW gcu f4357 rfl h4345))
      have k4466 : H4431 x 3 = H x 3 := ((f4436 x 3 _ gx rfl).trans (f4357 x 3 _ gx rfl))
      have q4467 : H4431 x 3 = (ce8 : Int) := k4466.trans ece8
      have h4468 : HDR T H4431 ce8  := (HDR_fr w4356 gce8 f4436 rfl (HDR_fr hW gce8 f4357 rfl hhdr8))
      have h4469 : RY T H4431 m (d8 0 3) g8 (H m 32) := (RY_fr w4356 gm f4436 rfl (RY_fr hW gm f4357 rfl h4346))
      have h4470 : RB T H4431 m e8 d8 := (RB_fr w4356 gm f4436 rfl h4427)
      exact WL.loc hX (by simp) (next T H4431 ⟨⟨w4435, g0, gx, gm, go, by omega, by omega⟩, ⟨_, tc, tm, cu, dr, _, _, _, _, _, ce8, q4449, gtc, h4457, q4451, gtm, h4458, q4453, gcu, q4455, gdr, h4459, h4460, h4461, h4462, h4463, hC1, hC2, h4464, h4470, (h4465).1, (h4469).1, hE, hZ, (by omega), (by assumption), (by omega), (by first | assumption | exact SG_0), q4467, gce8, h4456, h4468, a4441, gm⟩, by omega, by omega⟩ (by omega) (by omega))
