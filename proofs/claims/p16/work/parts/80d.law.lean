/-! THE LAW, GONE ON WITH (own work) -/
set_option maxHeartbeats 4000000 in
theorem wl_c22 {kt : Nat → Option mc_E} {CB SB : Nat} {X : mc_S → Prop} {T : wq_T} {H : wq_H} {Len x m o : Nat} {i : Int} (hX : wlX kt CB SB X) (hb : T.2.1 ≤ CB ∧ T.2.2.1 ≤ SB) (hI : wlJ Len x m o T H) (hL : Len ≤ 3072) (hi : 0 ≤ i ∧ i + 6 ≤ Len) (hb2 : T.2.1 + 20 ≤ CB ∧ T.2.2.1 + 500 ≤ SB)  (next : ∀ T' H', wlJ Len x m o T' H' → T'.2.1 ≤ T.2.1 + 20 → T'.2.2.1 ≤ T.2.2.1 + 500 → WL kt CB SB X 1653 (wlL i x m o) [] T' H') : WL kt CB SB X 882 (wlL i x m o) [] T H := by
  obtain ⟨⟨hW, g0, gx, gm, go, hK, hr⟩, hXI, hY1, hY2⟩ := hI
  refine wl_of hX hb cL_882 (rw_aload_n (pc' := 883) (v := .ref x) rfl rfl rfl ?_)
  refine wl_of hX hb cL_883 (rw_aload_n (pc' := 884) (v := .ref 0) rfl rfl rfl ?_)
  refine wl_of hX hb cL_884 (rw_iload (pc' := 886) (z := i) rfl rfl ?_)
  refine wl_of hX hb cL_886 (rw_iconst (pc' := 887) rfl ?_)
  refine wl_of hX hb cL_887 (rw_iadd (pc' := 888) rfl ?_)
  refine wl_of hX hb cL_888 (xa_I (so := 0) (pc' := 889) (a := 0) hW g0 (wsh_s _) (by omega) (wty_s _ _) (by omega) (by omega) rfl (fun b3605 b3606 => ?_))
  refine wl_of hX hb cL_889 (rw_aload_n (pc' := 890) (v := .ref 0) rfl rfl rfl ?_)
  refine wl_of hX hb cL_890 (rw_iload (pc' := 892) (z := i) rfl rfl ?_)
  refine wl_of hX hb cL_892 (rw_iconst (pc' := 893) rfl ?_)
  refine wl_of hX hb cL_893 (rw_iadd (pc' := 894) rfl ?_)
  refine wl_of hX hb cL_894 (xa_I (so := 0) (pc' := 895) (a := 0) hW g0 (wsh_s _) (by omega) (wty_s _ _) (by omega) (by omega) rfl (fun b3607 b3608 => ?_))
  obtain ⟨B, tc, tm, cu, dr, C8, e8, d8, n8, g8, ce8, e0, gtc, htc, em, gtm, htm, ecu, gcu, edr, gdr, hcu, hdr, hdec, hded, hsp, hC1, hC2, hcu8, hrb8, hcg8, hmn8, hE, hZ, hn8, hXA, hV8, hSG, ece8, gce8, hcen8, hhdr8, hknn8, -⟩ := hXI
  have hN3 := RB_n3 hrb8
  have hE13 : ∀ h : Nat, h < 24 → 0 ≤ e8 13 h ∧ e8 13 h ≤ 100 := fun k hk => by
    obtain ⟨s, h1, h2, h3⟩ := hcu8.1.2.2.1
    exact ⟨(h3 k hk).1, (h3 k hk).2.1⟩
  have hXW := hXA.1
  have hXN := hXA.2
  have hE0 : e8 0 3 = d8 0 3 ∧ e8 0 0 = d8 0 0 := by
    have h := hE 0 (by decide)
    exact ⟨congrFun h 3, congrFun h 0⟩
  have u3609 := CU_k hcu8
  have h3610 : CY T H cu (d8 0 3) g8 (H cu 17) := ⟨hcg8, rfl⟩
  have h3611 : RY T H m (d8 0 3) g8 (H m 32) := ⟨hmn8, rfl⟩
  obtain ⟨t9, ht9⟩ : ∃ t : Int, t = H x 9 := ⟨_, rfl⟩
  obtain ⟨y9, hy9⟩ : ∃ y : Int, y = H 0 ((i + 2).toNat) := ⟨_, rfl⟩
  obtain ⟨r3612, q3613, g3614⟩ := hW.ref gx (t' := 6) (n := 13) (j := 2) (p := 0) (q := 0) rfl (by decide) rfl
  refine wl_of hX hb cL_895 (xc_V (pc' := 898) (r := x) (as := [vI (H 0 ((i + 1).toNat)), vI (H 0 ((i + 2).toNat))]) (st := []) (lm_11_114) rfl rfl (Nat.le_of_ble_eq_true rfl) hW gx sh_1 (by decide) rfl (by decide) (u_105 (e := e8) (d := d8) (n := n8) hW gx ⟨by omega, by omega⟩ ⟨by omega, by omega⟩ ecu gcu q3613 g3614 ece8 gce8 (by assumption) (by assumption) (by omega) (by omega) (by omega) (by omega) hcu8 hcen8 hhdr8) (fun R3615 T3616 H3617 p3618 => ?_))
  obtain ⟨e3619, w3621, f3622, z3623, e3620, b3624, p3625⟩ := p3618
  subst e3619
  subst e3620
  show WL _ _ _ _ 898 [(4, vI i), (3, .ref o), (2, .ref m), (1, .ref x), (0, .ref 0)] [vI z3623] _ H3617
  refine wl_of hX hb cL_898 (rw_pop (pc' := 899) rfl rfl ?_)
  refine wl_of hX hb cL_899 (rw_aload_n (pc' := 900) (v := .ref m) rfl rfl rfl ?_)
  refine wl_of hX hb cL_900 (rw_aload_n (pc' := 901) (v := .ref 0) rfl rfl rfl ?_)
  refine wl_of hX hb cL_901 (rw_iload (pc' := 903) (z := i) rfl rfl ?_)
  refine wl_of hX hb cL_903 (rw_iconst (pc' := 904) rfl ?_)
  refine wl_of hX hb cL_904 (rw_iadd (pc' := 905) rfl ?_)
  have k3629 : H3617 0 ((i + 1).toNat) = H 0 ((i + 1).toNat) := (f3622 0 ((i + 1).toNat) _ g0 (wmem_s rfl))
  refine wl_of hX hb cL_905 (xa_I (so := 0) (pc' := 906) (a := 0) w3621 g0 (wsh_s _) (by omega) (wty_s _ _) (by omega) (by omega) rfl (fun b3627 b3628 => ?_))
  refine wl_of hX hb cL_906 (rw_aload_n (pc' := 907) (v := .ref 0) rfl rfl rfl ?_)
  refine wl_of hX hb cL_907 (rw_iload (pc' := 909) (z := i) rfl rfl ?_)
  refine wl_of hX hb cL_909 (rw_iconst (pc' := 910) rfl ?_)
  refine wl_of hX hb cL_910 (rw_iadd (pc' := 911) rfl ?_)
  have k3632 : H3617 0 ((i + 2).toNat) = H 0 ((i + 2).toNat) := (f3622 0 ((i + 2).toNat) _ g0 (wmem_s rfl))
  refine wl_of hX hb cL_911 (xa_I (so := 0) (pc' := 912) (a := 0) w3621 g0 (wsh_s _) (by omega) (wty_s _ _) (by omega) (by omega) rfl (fun b3630 b3631 => ?_))
  have k3633 : wKI H3617 m = wKI H m := (wKI_fr hW gm f3622 rfl)
  have k3634 : H3617 x 9 = H x 9 := (f3622 x 9 _ gx rfl)
  have k3635 : H3617 m 6 = H m 6 := (f3622 m 6 _ gm rfl)
  have k3636 : H3617 x 11 = H x 11 := (f3622 x 11 _ gx rfl)
  have k3637 : H3617 m 13 = H m 13 := (f3622 m 13 _ gm rfl)
  have k3638 : H3617 x 8 = H x 8 := (f3622 x 8 _ gx rfl)
  have k3639 : H3617 m 3 = H m 3 := (f3622 m 3 _ gm rfl)
  rw [show H3617 0 ((i + 2).toNat) = H 0 ((i + 2).toNat) by omega]
  rw [show H3617 0 ((i + 1).toNat) = H 0 ((i + 1).toNat) by omega]
  have h3640 : RB T H3617 m e8 d8 := (RB_fr hW gm f3622 rfl hrb8)
  have h3641 : KNN T H3617 m e8 d8 := (KNN_fr hW gm f3622 rfl hknn8)
  refine wl_of hX hb cL_912 (xc_V (pc' := 915) (r := m) (as := [vI (H 0 ((i + 1).toNat)), vI (H 0 ((i + 2).toNat))]) (st := []) (lm_11_117) rfl rfl (Nat.le_of_ble_eq_true rfl) w3621 gm sh_42 (by decide) rfl (by decide) (u_255 (e := e8) (d := d8) w3621 gm ⟨by omega, by omega⟩ ⟨by omega, by omega⟩ (by omega) (by assumption) (by assumption) (by assumption) (by assumption) h3640 h3641) (fun R3642 T3643 H3644 p3645 => ?_))
  obtain ⟨e3646, w3648, f3649, z3650, e3647, b3651, p3652⟩ := p3645
  subst e3646
  subst e3647
  obtain ⟨a3653, a3654⟩ := p3652
  show WL _ _ _ _ 915 [(4, vI i), (3, .ref o), (2, .ref m), (1, .ref x), (0, .ref 0)] [vI z3650] _ H3644
  refine wl_of hX hb cL_915 (rw_pop (pc' := 916) rfl rfl ?_)
  refine wl_of hX hb cL_916 (rw_goto (p1 := 1653) (by decide) ?_)
  have k3655 : H3644 x 9 = H3617 x 9 := (f3649 x 9 _ gx rfl)
  have k3656 : H3644 m 6 = H3617 m 6 := (f3649 m 6 _ gm rfl)
  have k3657 : H3644 x 11 = H3617 x 11 := (f3649 x 11 _ gx rfl)
  have k3658 : H3644 m 13 = H3617 m 13 := (f3649 m 13 _ gm rfl)
  have k3659 : H3644 x 8 = H3617 x 8 := (f3649 x 8 _ gx rfl)
  have k3660 : H3644 m 3 = H3617 m 3 := (f3649 m 3 _ gm rfl)
  have k3661 : H3644 x 0 = H x 0 := ((f3649 x 0 _ gx rfl).trans (f3622 x 0 _ gx rfl))
  have q3662 : H3644 x 0 = (tc : Int) := k3661.trans e0
  have k3663 : H3644 m 5 = H m 5 := ((f3649 m 5 _ gm rfl).trans (f3622 m 5 _ gm rfl))
  have q3664 : H3644 m 5 = (tm : Int) := k3663.trans em
  have k3665 : H3644 x 6 = H x 6 := ((f3649 x 6 _ gx rfl).trans (f3622 x 6 _ gx rfl))
  have q3666 : H3644 x 6 = (cu : Int) := k3665.trans ecu
  have k3667 : H3644 x 7 = H x 7 := ((f3649 x 7 _ gx rfl).trans (f3622 x 7 _ gx rfl))
  have q3668 : H3644 x 7 = (dr : Int) := k3667.trans edr
  have h3669 : CEN T H3644 ce8 e8 d8 := (CEN_fr w3621 gce8 f3649 rfl p3625)
  have h3670 : TP T H3644 tc B := (TP_fr w3621 gtc f3649 rfl (TP_fr hW gtc f3622 rfl htc))
  have h3671 : TM T H3644 tm B := (TM_fr w3621 gtm f3649 rfl (TM_fr hW gtm f3622 rfl htm))
  have h3672 : DD T H3644 cu  := (DD_fr w3621 gcu f3649 rfl (DD_fr hW gcu f3622 rfl hcu))
  have h3673 : DD T H3644 dr  := (DD_fr w3621 gdr f3649 rfl (DD_fr hW gdr f3622 rfl hdr))
  have h3674 : DE T H3644 cu  := (DE_fr w3621 gcu f3649 rfl (DE_fr hW gcu f3622 rfl hdec))
  have h3675 : DE T H3644 dr  := (DE_fr w3621 gdr f3649 rfl (DE_fr hW gdr f3622 rfl hded))
  have h3676 : SP T H3644 x C8 := (SP_fr w3621 gx f3649 rfl (SP_fr hW gx f3622 rfl hsp))
  have h3677 : CU T H3644 cu e8 d8 n8 := (CU_fr w3621 gcu f3649 rfl (CU_fr hW gcu f3622 rfl hcu8))
  have h3678 : CY T H3644 cu (d8 0 3) g8 (H cu 17) := (CY_fr w3621 gcu f3649 rfl (CY_fr hW gcu f3622 rfl h3610))
  have k3679 : H3644 x 3 = H x 3 := ((f3649 x 3 _ gx rfl).trans (f3622 x 3 _ gx rfl))
  have q3680 : H3644 x 3 = (ce8 : Int) := k3679.trans ece8
  have h3681 : HDR T H3644 ce8  := (HDR_fr w3621 gce8 f3649 rfl (HDR_fr hW gce8 f3622 rfl hhdr8))
  have h3682 : RY T H3644 m (d8 0 3) g8 (H m 32) := (RY_fr w3621 gm f3649 rfl (RY_fr hW gm f3622 rfl h3611))
  have h3683 : RB T H3644 m e8 d8 := (RB_fr w3621 gm f3649 rfl h3640)
  exact WL.loc hX (by simp) (next T H3644 ⟨⟨w3648, g0, gx, gm, go, by omega, by omega⟩, ⟨_, tc, tm, cu, dr, _, _, _, _, _, ce8, q3662, gtc, h3670, q3664, gtm, h3671, q3666, gcu, q3668, gdr, h3672, h3673, h3674, h3675, h3676, hC1, hC2, h3677, h3683, (h3678).1, (h3682).1, hE, hZ, (by omega), (by assumption), (by omega), (by first | assumption | exact SG_0), q3680, gce8, h3669, h3681, a3654, gm⟩, by omega, by omega⟩ (by omega) (by omega))
set_option maxHeartbeats 4000000 in
theorem wl_c23 {kt : Nat → Option mc_E} {CB SB : Nat} {X : mc_S → Prop} {T : wq_T} {H : wq_H} {Len x m o : Nat} {i : Int} (hX : wlX kt CB SB X) (hb : T.2.1 ≤ CB ∧ T.2.2.1 ≤ SB) (hI : wlJ Len x m o T H) (hL : Len ≤ 3072) (hi : 0 ≤ i ∧ i + 6 ≤ Len) (hb2 : T.2.1 + 20 ≤ CB ∧ T.2.2.1 + 500 ≤ SB)  (next : ∀ T' H', wlJ Len x m o T' H' → T'.2.1 ≤ T.2.1 + 20 → T'.2.2.1 ≤ T.2.2.1 + 500 → WL kt CB SB X 1653 (wlL i x m o) [] T' H') : WL kt CB SB X 919 (wlL i x m o) [] T H := by
  obtain ⟨⟨hW, g0, gx, gm, go, hK, hr⟩, hXI, hY1, hY2⟩ := hI
  refine wl_of hX hb cL_919 (rw_aload_n (pc' := 920) (v := .ref x) rfl rfl rfl ?_)
  refine wl_of hX hb cL_920 (rw_aload_n (pc' := 921) (v := .ref 0) rfl rfl rfl ?_)
  refine wl_of hX hb cL_921 (rw_iload (pc' := 923) (z := i) rfl rfl ?_)
  refine wl_of hX hb cL_923 (rw_iconst (pc' := 924) rfl ?_)
  refine wl_of hX hb cL_924 (rw_iadd (pc' := 925) rfl ?_)
  refine wl_of hX hb cL_925 (xa_I (so := 0) (pc' := 926) (a := 0) hW g0 (wsh_s _) (by omega) (wty_s _ _) (by omega) (by omega) rfl (fun b3684 b3685 => ?_))
  obtain ⟨B, tc, tm, cu, dr, C8, e8, d8, n8, g8, ce8, e0, gtc, htc, em, gtm, htm, ecu, gcu, edr, gdr, hcu, hdr, hdec, hded, hsp, hC1, hC2, hcu8, hrb8, hcg8, hmn8, hE, hZ, hn8, hXA, hV8, hSG, ece8, gce8, hcen8, hhdr8, hknn8, -⟩ := hXI
  have hN3 := RB_n3 hrb8
  have hE13 : ∀ h : Nat, h < 24 → 0 ≤ e8 13 h ∧ e8 13 h ≤ 100 := fun k hk => by
    obtain ⟨s, h1, h2, h3⟩ := hcu8.1.2.2.1
    exact ⟨(h3 k hk).1, (h3 k hk).2.1⟩
  have hXW := hXA.1
  have hXN := hXA.2
  have hE0 : e8 0 3 = d8 0 3 ∧ e8 0 0 = d8 0 0 := by
    have h := hE 0 (by decide)
    exact ⟨congrFun h 3, congrFun h 0⟩
  have u3686 := CU_k hcu8
  have h3687 : CY T H cu (d8 0 3) g8 (H cu 17) := ⟨hcg8, rfl⟩
  have h3688 : RY T H m (d8 0 3) g8 (H m 32) := ⟨hmn8, rfl⟩
  obtain ⟨t9, ht9⟩ : ∃ t : Int, t = H x 9 := ⟨_, rfl⟩
  obtain ⟨y9, hy9⟩ : ∃ y : Int, y = H 0 ((i + 1).toNat) := ⟨_, rfl⟩
  obtain ⟨r3689, q3690, g3691⟩ := hW.ref gx (t' := 6) (n := 13) (j := 2) (p := 0) (q := 0) rfl (by decide) rfl
  refine wl_of hX hb cL_926 (xc_V (pc' := 929) (r := x) (as := [vI (H 0 ((i + 1).toNat))]) (st := []) (lm_11_118) rfl rfl (Nat.le_of_ble_eq_true rfl) hW gx sh_1 (by decide) rfl (by decide) (u_107 (e := e8) (d := d8) (n := n8) hW gx ⟨by omega, by omega⟩ ecu gcu q3690 g3691 ece8 gce8 (by assumption) (by assumption) (by omega) (by omega) (by omega) (by omega) hcu8 hcen8 hhdr8) (fun R3692 T3693 H3694 p3695 => ?_))
  obtain ⟨e3696, w3698, f3699, z3700, e3697, b3701, p3702⟩ := p3695
  subst e3696
  subst e3697
  show WL _ _ _ _ 929 [(4, vI i), (3, .ref o), (2, .ref m), (1, .ref x), (0, .ref 0)] [vI z3700] _ H3694
  refine wl_of hX hb cL_929 (rw_pop (pc' := 930) rfl rfl ?_)
  refine wl_of hX hb cL_930 (rw_aload_n (pc' := 931) (v := .ref m) rfl rfl rfl ?_)
  refine wl_of hX hb cL_931 (rw_aload_n (pc' := 932) (v := .ref 0) rfl rfl rfl ?_)
  refine wl_of hX hb cL_932 (rw_iload (pc' := 934) (z := i) rfl rfl ?_)
  refine wl_of hX hb cL_934 (rw_iconst (pc' := 935) rfl ?_)
  refine wl_of hX hb cL_935 (rw_iadd (pc' := 936) rfl ?_)
  have k3706 : H3694 0 ((i + 1).toNat) = H 0 ((i + 1).toNat) := (f3699 0 ((i + 1).toNat) _ g0 (wmem_s rfl))
  refine wl_of hX hb cL_936 (xa_I (so := 0) (pc' := 937) (a := 0) w3698 g0 (wsh_s _) (by omega) (wty_s _ _) (by omega) (by omega) rfl (fun b3704 b3705 => ?_))
  have k3707 : wKI H3694 m = wKI H m := (wKI_fr hW gm f3699 rfl)
  have k3708 : H3694 x 9 = H x 9 := (f3699 x 9 _ gx rfl)
  have k3709 : H3694 m 6 = H m 6 := (f3699 m 6 _ gm rfl)
  have k3710 : H3694 x 11 = H x 11 := (f3699 x 11 _ gx rfl)
  have k3711 : H3694 m 13 = H m 13 := (f3699 m 13 _ gm rfl)
  have k3712 : H3694 x 8 = H x 8 := (f3699 x 8 _ gx rfl)
  have k3713 : H3694 m 3 = H m 3 := (f3699 m 3 _ gm rfl)
  rw [show H3694 0 ((i + 1).toNat) = H 0 ((i + 1).toNat) by omega]
  have h3714 : RB T H3694 m e8 d8 := (RB_fr hW gm f3699 rfl hrb8)
  have h3715 : KNN T H3694 m e8 d8 := (KNN_fr hW gm f3699 rfl hknn8)
  refine wl_of hX hb cL_937 (xc_V (pc' := 940) (r := m) (as := [vI (H 0 ((i + 1).toNat))]) (st := []) (lm_11_121) rfl rfl (Nat.le_of_ble_eq_true rfl) w3698 gm sh_42 (by decide) rfl (by decide) (u_256 (e := e8) (d := d8) w3698 gm ⟨by omega, by omega⟩ (by omega) (by assumption) (by assumption) (by assumption) (by assumption) h3714 h3715) (fun R3716 T3717 H3718 p3719 => ?_))
  obtain ⟨e3720, w3722, f3723, z3724, e3721, b3725, p3726⟩ := p3719
  subst e3720
  subst e3721
  obtain ⟨a3727, a3728⟩ := p3726
  show WL _ _ _ _ 940 [(4, vI i), (3, .ref o), (2, .ref m), (1, .ref x), (0, .ref 0)] [vI z3724] _ H3718
  refine wl_of hX hb cL_940 (rw_pop (pc' := 941) rfl rfl ?_)
  refine wl_of hX hb cL_941 (rw_goto (p1 := 1653) (by decide) ?_)
  have k3729 : H3718 x 9 = H3694 x 9 := (f3723 x 9 _ gx rfl)
  have k3730 : H3718 m 6 = H3694 m 6 := (f3723 m 6 _ gm rfl)
  have k3731 : H3718 x 11 = H3694 x 11 := (f3723 x 11 _ gx rfl)
  have k3732 : H3718 m 13 = H3694 m 13 := (f3723 m 13 _ gm rfl)
  have k3733 : H3718 x 8 = H3694 x 8 := (f3723 x 8 _ gx rfl)
  have k3734 : H3718 m 3 = H3694 m 3 := (f3723 m 3 _ gm rfl)
  have k3735 : H3718 x 0 = H x 0 := ((f3723 x 0 _ gx rfl).trans (f3699 x 0 _ gx rfl))
  have q3736 : H3718 x 0 = (tc : Int) := k3735.trans e0
  have k3737 : H3718 m 5 = H m 5 := ((f3723 m 5 _ gm rfl).trans (f3699 m 5 _ gm rfl))
  have q3738 : H3718 m 5 = (tm : Int) := k3737.trans em
  have k3739 : H3718 x 6 = H x 6 := ((f3723 x 6 _ gx rfl).trans (f3699 x 6 _ gx rfl))
  have q3740 : H3718 x 6 = (cu : Int) := k3739.trans ecu
  have k3741 : H3718 x 7 = H x 7 := ((f3723 x 7 _ gx rfl).trans (f3699 x 7 _ gx rfl))
  have q3742 : H3718 x 7 = (dr : Int) := k3741.trans edr
  have h3743 : CEN T H3718 ce8 e8 d8 := (CEN_fr w3698 gce8 f3723 rfl p3702)
  have h3744 : TP T H3718 tc B := (TP_fr w3698 gtc f3723 rfl (TP_fr hW gtc f3699 rfl htc))
  have h3745 : TM T H3718 tm B := (TM_fr w3698 gtm f3723 rfl (TM_fr hW gtm f3699 rfl htm))
  have h3746 : DD T H3718 cu  := (DD_fr w3698 gcu f3723 rfl (DD_fr hW gcu f3699 rfl hcu))
  have h3747 : DD T H3718 dr  := (DD_fr w3698 gdr f3723 rfl (DD_fr hW gdr f3699 rfl hdr))
  have h3748 : DE T H3718 cu  := (DE_fr w3698 gcu f3723 rfl (DE_fr hW gcu f3699 rfl hdec))
  have h3749 : DE T H3718 dr  := (DE_fr w3698 gdr f3723 rfl (DE_fr hW gdr f3699 rfl hded))
  have h3750 : SP T H3718 x C8 := (SP_fr w3698 gx f3723 rfl (SP_fr hW gx f3699 rfl hsp))
  have h3751 : CU T H3718 cu e8 d8 n8 := (CU_fr w3698 gcu f3723 rfl (CU_fr hW gcu f3699 rfl hcu8))
  have h3752 : CY T H3718 cu (d8 0 3) g8 (H cu 17) := (CY_fr w3698 gcu f3723 rfl (CY_fr hW gcu f3699 rfl h3687))
  have k3753 : H3718 x 3 = H x 3 := ((f3723 x 3 _ gx rfl).trans (f3699 x 3 _ gx rfl))
  have q3754 : H3718 x 3 = (ce8 : Int) := k3753.trans ece8
  have h3755 : HDR T H3718 ce8  := (HDR_fr w3698 gce8 f3723 rfl (HDR_fr hW gce8 f3699 rfl hhdr8))
  have h3756 : RY T H3718 m (d8 0 3) g8 (H m 32) := (RY_fr w3698 gm f3723 rfl (RY_fr hW gm f3699 rfl h3688))
  have h3757 : RB T H3718 m e8 d8 := (RB_fr w3698 gm f3723 rfl h3714)
  exact WL.loc hX (by simp) (next T H3718 ⟨⟨w3722, g0, gx, gm, go, by omega, by omega⟩, ⟨_, tc, tm, cu, dr, _, _, _, _, _, ce8, q3736, gtc, h3744, q3738, gtm, h3745, q3740, gcu, q3742, gdr, h3746, h3747, h3748, h3749, h3750, hC1, hC2, h3751, h3757, (h3752).1, (h3756).1, hE, hZ, (by omega), (by assumption), (by omega), (by first | assumption | exact SG_0), q3754, gce8, h3743, h3755, a3728, gm⟩, by omega, by omega⟩ (by omega) (by omega))
set_option maxHeartbeats 4000000 in
theorem wl_c24 {kt : Nat → Option mc_E} {CB SB : Nat} {X : mc_S → Prop} {T : wq_T} {H : wq_H} {Len x m o : Nat} {i : Int} (hX : wlX kt CB SB X) (hb : T.2.1 ≤ CB ∧ T.2.2.1 ≤ SB) (hI : wlJ Len x m o T H) (hL : Len ≤ 3072) (hi : 0 ≤ i ∧ i + 6 ≤ Len) (hb2 : T.2.1 + 20 ≤ CB ∧ T.2.2.1 + 500 ≤ SB)  (next : ∀ T' H', wlJ Len x m o T' H' → T'.2.1 ≤ T.2.1 + 20 → T'.2.2.1 ≤ T.2.2.1 + 500 → WL kt CB SB X 1653 (wlL i x m o) [] T' H') : WL kt CB SB X 944 (wlL i x m o) [] T H := by
  obtain ⟨⟨hW, g0, gx, gm, go, hK, hr⟩, hXI, hY1, hY2⟩ := hI
  refine wl_of hX hb cL_944 (rw_aload_n (pc' := 945) (v := .ref x) rfl rfl rfl ?_)
  obtain ⟨B, tc, tm, cu, dr, C8, e8, d8, n8, g8, ce8, e0, gtc, htc, em, gtm, htm, ecu, gcu, edr, gdr, hcu, hdr, hdec, hded, hsp, hC1, hC2, hcu8, hrb8, hcg8, hmn8, hE, hZ, hn8, hXA, hV8, hSG, ece8, gce8, hcen8, hhdr8, hknn8, -⟩ := hXI
  have hN3 := RB_n3 hrb8
  have hE13 : ∀ h : Nat, h < 24 → 0 ≤ e8 13 h ∧ e8 13 h ≤ 100 := fun k hk => by
    obtain ⟨s, h1, h2, h3⟩ := hcu8.1.2.2.1
    exact ⟨(h3 k hk).1, (h3 k hk).2.1⟩
  have hXW := hXA.1
  have hXN := hXA.2
  have hE0 : e8 0 3 = d8 0 3 ∧ e8 0 0 = d8 0 0 := by
    have h := hE 0 (by decide)
    exact ⟨congrFun h 3, congrFun h 0⟩
  have u3758 := CU_k hcu8
  have h3759 : CY T H cu (d8 0 3) g8 (H cu 17) := ⟨hcg8, rfl⟩
  have h3760 : RY T H m (d8 0 3) g8 (H m 32) := ⟨hmn8, rfl⟩
  obtain ⟨t9, ht9⟩ : ∃ t : Int, t = H x 9 := ⟨_, rfl⟩
  obtain ⟨r3761, q3762, g3763⟩ := hW.ref gx (t' := 6) (n := 13) (j := 2) (p := 0) (q := 0) rfl (by decide) rfl
  refine wl_of hX hb cL_945 (xc_V (pc' := 948) (r := x) (as := []) (st := []) (lm_11_122) rfl rfl (Nat.le_of_ble_eq_true rfl) hW gx sh_1 (by decide) rfl (by decide) (u_108 (e := e8) (d := d8) (n := n8) hW gx ecu gcu q3762 g3763 ece8 gce8 (by assumption) (by assumption) (by omega) (by omega) (by omega) (by omega) hcu8 hcen8 hhdr8) (fun R3764 T3765 H3766 p3767 => ?_))
  obtain ⟨e3768, w3770, f3771, z3772, e3769, b3773, p3774⟩ := p3767
  subst e3768
  subst e3769
  show WL _ _ _ _ 948 [(4, vI i), (3, .ref o), (2, .ref m), (1, .ref x), (0, .ref 0)] [vL z3772] _ H3766
  refine wl_of hX hb cL_948 (rw_pop2 (pc' := 949) rfl rfl ?_)
  refine wl_of hX hb cL_949 (rw_aload_n (pc' := 950) (v := .ref m) rfl rfl rfl ?_)
  have k3776 : wKI H3766 m = wKI H m := (wKI_fr hW gm f3771 rfl)
  have k3777 : H3766 x 9 = H x 9 := (f3771 x 9 _ gx rfl)
  have k3778 : H3766 m 6 = H m 6 := (f3771 m 6 _ gm rfl)
  have k3779 : H3766 x 11 = H x 11 := (f3771 x 11 _ gx rfl)
  have k3780 : H3766 m 13 = H m 13 := (f3771 m 13 _ gm rfl)
  have k3781 : H3766 x 8 = H x 8 := (f3771 x 8 _ gx rfl)
  have k3782 : H3766 m 3 = H m 3 := (f3771 m 3 _ gm rfl)
  have h3783 : RB T H3766 m e8 d8 := (RB_fr hW gm f3771 rfl hrb8)
  have h3784 : KNN T H3766 m e8 d8 := (KNN_fr hW gm f3771 rfl hknn8)
  refine wl_of hX hb cL_950 (xc_V (pc' := 953) (r := m) (as := []) (st := []) (lm_11_125) rfl rfl (Nat.le_of_ble_eq_true rfl) w3770 gm sh_42 (by decide) rfl (by decide) (u_258 (e := e8) (d := d8) w3770 gm (by omega) (by assumption) (by assumption) (by assumption) (by assumption) h3783 h3784) (fun R3785 T3786 H3787 p3788 => ?_))
  obtain ⟨e3789, w3791, f3792, z3793, e3790, b3794, p3795⟩ := p3788
  subst e3789
  subst e3790
  obtain ⟨a3796, a3797⟩ := p3795
  show WL _ _ _ _ 953 [(4, vI i), (3, .ref o), (2, .ref m), (1, .ref x), (0, .ref 0)] [vL z3793] _ H3787
  refine wl_of hX hb cL_953 (rw_pop2 (pc' := 954) rfl rfl ?_)
  refine wl_of hX hb cL_954 (rw_goto (p1 := 1653) (by decide) ?_)
  have k3798 : H3787 x 9 = H3766 x 9 := (f3792 x 9 _ gx rfl)
  have k3799 : H3787 m 6 = H3766 m 6 := (f3792 m 6 _ gm rfl)
  have k3800 : H3787 x 11 = H3766 x 11 := (f3792 x 11 _ gx rfl)
  have k3801 : H3787 m 13 = H3766 m 13 := (f3792 m 13 _ gm rfl)
  have k3802 : H3787 x 8 = H3766 x 8 := (f3792 x 8 _ gx rfl)
  have k3803 : H3787 m 3 = H3766 m 3 := (f3792 m 3 _ gm rfl)
  have k3804 : H3787 x 0 = H x 0 := ((f3792 x 0 _ gx rfl).trans (f3771 x 0 _ gx rfl))
  have q3805 : H3787 x 0 = (tc : Int) := k3804.trans e0
  have k3806 : H3787 m 5 = H m 5 := ((f3792 m 5 _ gm rfl).trans (f3771 m 5 _ gm rfl))
  have q3807 : H3787 m 5 = (tm : Int) := k3806.trans em
  have k3808 : H3787 x 6 = H x 6 := ((f3792 x 6 _ gx rfl).trans (f3771 x 6 _ gx rfl))
  have q3809 : H3787 x 6 = (cu : Int) := k3808.trans ecu
  have k3810 : H3787 x 7 = H x 7 := ((f3792 x 7 _ gx rfl).trans (f3771 x 7 _ gx rfl))
  have q3811 : H3787 x 7 = (dr : Int) := k3810.trans edr
  have h3812 : CEN T H3787 ce8 e8 d8 := (CEN_fr w3770 gce8 f3792 rfl p3774)
  have h3813 : TP T H3787 tc B := (TP_fr w3770 gtc f3792 rfl (TP_fr hW gtc f3771 rfl htc))
  have h3814 : TM T H3787 tm B := (TM_fr w3770 gtm f3792 rfl (TM_fr hW gtm f3771 rfl htm))
  have h3815 : DD T H3787 cu  := (DD_fr w3770 gcu f3792 rfl (DD_fr hW gcu f3771 rfl hcu))
  have h3816 : DD T H3787 dr  := (DD_fr w3770 gdr f3792 rfl (DD_fr hW gdr f3771 rfl hdr))
  have h3817 : DE T H3787 cu  := (DE_fr w3770 gcu f3792 rfl (DE_fr hW gcu f3771 rfl hdec))
  have h3818 : DE T H3787 dr  := (DE_fr w3770 gdr f3792 rfl (DE_fr hW gdr f3771 rfl hded))
  have h3819 : SP T H3787 x C8 := (SP_fr w3770 gx f3792 rfl (SP_fr hW gx f3771 rfl hsp))
  have h3820 : CU T H3787 cu e8 d8 n8 := (CU_fr w3770 gcu f3792 rfl (CU_fr hW gcu f3771 rfl hcu8))
  have h3821 : CY T H3787 cu (d8 0 3) g8 (H cu 17) := (CY_fr w3770 gcu f3792 rfl (CY_fr hW gcu f3771 rfl h3759))
  have k3822 : H3787 x 3 = H x 3 := ((f3792 x 3 _ gx rfl).trans (f3771 x 3 _ gx rfl))
  have q3823 : H3787 x 3 = (ce8 : Int) := k3822.trans ece8
  have h3824 : HDR T H3787 ce8  := (HDR_fr w3770 gce8 f3792 rfl (HDR_fr hW gce8 f3771 rfl hhdr8))
  have h3825 : RY T H3787 m (d8 0 3) g8 (H m 32) := (RY_fr w3770 gm f3792 rfl (RY_fr hW gm f3771 rfl h3760))
  have h3826 : RB T H3787 m e8 d8 := (RB_fr w3770 gm f3792 rfl h3783)
  exact WL.loc hX (by simp) (next T H3787 ⟨⟨w3791, g0, gx, gm, go, by omega, by omega⟩, ⟨_, tc, tm, cu, dr, _, _, _, _, _, ce8, q3805, gtc, h3813, q3807, gtm, h3814, q3809, gcu, q3811, gdr, h3815, h3816, h3817, h3818, h3819, hC1, hC2, h3820, h3826, (h3821).1, (h3825).1, hE, hZ, (by omega), (by assumption), (by omega), (by first | assumption | exact SG_0), q3823, gce8, h3812, h3824, a3797, gm⟩, by omega, by omega⟩ (by omega) (by omega))
set_option maxHeartbeats 4000000 in
theorem wl_c25 {kt : Nat → Option mc_E} {CB SB : Nat} {X : mc_S → Prop} {T : wq_T} {H : wq_H} {Len x m o : Nat} {i : Int} (hX : wlX kt CB SB X) (hb : T.2.1 ≤ CB ∧ T.2.2.1 ≤ SB) (hI : wlJ Len x m o T H) (hL : Len ≤ 3072) (hi : 0 ≤ i ∧ i + 6 ≤ Len) (hb2 : T.2.1 + 20 ≤ CB ∧ T.2.2.1 + 500 ≤ SB)  (next : ∀ T' H', wlJ Len x m o T' H' → T'.2.1 ≤ T.2.1 + 20 → T'.2.2.1 ≤ T.2.2.1 + 500 → WL kt CB SB X 1653 (wlL i x m o) [] T' H') : WL kt CB SB X 957 (wlL i x m o) [] T H := by
  obtain ⟨⟨hW, g0, gx, gm, go, hK, hr⟩, hXI, hY1, hY2⟩ := hI
  refine wl_of hX hb cL_957 (rw_aload_n (pc' := 958) (v := .ref x) rfl rfl rfl ?_)
  refine wl_of hX hb cL_958 (rw_aload_n (pc' := 959) (v := .ref 0) rfl rfl rfl ?_)
  refine wl_of hX hb cL_959 (rw_iload (pc' := 961) (z := i) rfl rfl ?_)
  refine wl_of hX hb cL_961 (rw_iconst (pc' := 962) rfl ?_)
  refine wl_of hX hb cL_962 (rw_iadd (pc' := 963) rfl ?_)
  refine wl_of hX hb cL_963 (xa_I (so := 0) (pc' := 964) (a := 0) hW g0 (wsh_s _) (by omega) (wty_s _ _) (by omega) (by omega) rfl (fun b3827 b3828 => ?_))
  refine wl_of hX hb cL_964 (rw_aload_n (pc' := 965) (v := .ref 0) rfl rfl rfl ?_)
  refine wl_of hX hb cL_965 (rw_iload (pc' := 967) (z := i) rfl rfl ?_)
  refine wl_of hX hb cL_967 (rw_iconst (pc' := 968) rfl ?_)
  refine wl_of hX hb cL_968 (rw_iadd (pc' := 969) rfl ?_)
  refine wl_of hX hb cL_969 (xa_I (so := 0) (pc' := 970) (a := 0) hW g0 (wsh_s _) (by omega) (wty_s _ _) (by omega) (by omega) rfl (fun b3829 b3830 => ?_))
  obtain ⟨B, tc, tm, cu, dr, C8, e8, d8, n8, g8, ce8, e0, gtc, htc, em, gtm, htm, ecu, gcu, edr, gdr, hcu, hdr, hdec, hded, hsp, hC1, hC2, hcu8, hrb8, hcg8, hmn8, hE, hZ, hn8, hXA, hV8, hSG, ece8, gce8, hcen8, hhdr8, hknn8, -⟩ := hXI
  have hN3 := RB_n3 hrb8
  have hE13 : ∀ h : Nat, h < 24 → 0 ≤ e8 13 h ∧ e8 13 h ≤ 100 := fun k hk => by
    obtain ⟨s, h1, h2, h3⟩ := hcu8.1.2.2.1
    exact ⟨(h3 k hk).1, (h3 k hk).2.1⟩
  have hXW := hXA.1
  have hXN := hXA.2
  have hE0 : e8 0 3 = d8 0 3 ∧ e8 0 0 = d8 0 0 := by
    have h := hE 0 (by decide)
    exact ⟨congrFun h 3, congrFun h 0⟩
  have u3831 := CU_k hcu8
  have h3832 : CY T H cu (d8 0 3) g8 (H cu 17) := ⟨hcg8, rfl⟩
  have h3833 : RY T H m (d8 0 3) g8 (H m 32) := ⟨hmn8, rfl⟩
  obtain ⟨t9, ht9⟩ : ∃ t : Int, t = H x 9 := ⟨_, rfl⟩
  obtain ⟨y9, hy9⟩ : ∃ y : Int, y = H 0 ((i + 2).toNat) := ⟨_, rfl⟩
  obtain ⟨r3834, q3835, g3836⟩ := hW.ref gx (t' := 6) (n := 13) (j := 2) (p := 0) (q := 0) rfl (by decide) rfl
  refine wl_of hX hb cL_970 (xc_V (pc' := 973) (r := x) (as := [vI (H 0 ((i + 1).toNat)), vI (H 0 ((i + 2).toNat))]) (st := []) (lm_11_126) rfl rfl (Nat.le_of_ble_eq_true rfl) hW gx sh_1 (by decide) rfl (by decide) (u_109 (e := e8) (d := d8) (n := n8) hW gx ⟨by omega, by omega⟩ ⟨by omega, by omega⟩ ecu gcu q3835 g3836 ece8 gce8 (by assumption) (by assumption) (by omega) (by omega) (by omega) (by omega) hcu8 hcen8 hhdr8) (fun R3837 T3838 H3839 p3840 => ?_))
  obtain ⟨e3841, w3843, f3844, z3845, e3842, b3846, p3847⟩ := p3840
  subst e3841
  subst e3842
  show WL _ _ _ _ 973 [(4, vI i), (3, .ref o), (2, .ref m), (1, .ref x), (0, .ref 0)] [vI z3845] _ H3839
  refine wl_of hX hb cL_973 (rw_pop (pc' := 974) rfl rfl ?_)
  refine wl_of hX hb cL_974 (rw_aload_n (pc' := 975) (v := .ref m) rfl rfl rfl ?_)
  refine wl_of hX hb cL_975 (rw_aload_n (pc' := 976) (v := .ref 0) rfl rfl rfl ?_)
  refine wl_of hX hb cL_976 (rw_iload (pc' := 978) (z := i) rfl rfl ?_)
  refine wl_of hX hb cL_978 (rw_iconst (pc' := 979) rfl ?_)
  refine wl_of hX hb cL_979 (rw_iadd (pc' := 980) rfl ?_)
  have k3851 : H3839 0 ((i + 1).toNat) = H 0 ((i + 1).toNat) := (f3844 0 ((i + 1).toNat) _ g0 (wmem_s rfl))
  refine wl_of hX hb cL_980 (xa_I (so := 0) (pc' := 981) (a := 0) w3843 g0 (wsh_s _) (by omega) (wty_s _ _) (by omega) (by omega) rfl (fun b3849 b3850 => ?_))
  refine wl_of hX hb cL_981 (rw_aload_n (pc' := 982) (v := .ref 0) rfl rfl rfl ?_)
  refine wl_of hX hb cL_982 (rw_iload (pc' := 984) (z := i) rfl rfl ?_)
  refine wl_of hX hb cL_984 (rw_iconst (pc' := 985) rfl ?_)
  refine wl_of hX hb cL_985 (rw_iadd (pc' := 986) rfl ?_)
  have k3854 : H3839 0 ((i + 2).toNat) = H 0 ((i + 2).toNat) := (f3844 0 ((i + 2).toNat) _ g0 (wmem_s rfl))
  refine wl_of hX hb cL_986 (xa_I (so := 0) (pc' := 987) (a := 0) w3843 g0 (wsh_s _) (by omega) (wty_s _ _) (by omega) (by omega) rfl (fun b3852 b3853 => ?_))
  have k3855 : wKI H3839 m = wKI H m := (wKI_fr hW gm f3844 rfl)
  have k3856 : H3839 x 9 = H x 9 := (f3844 x 9 _ gx rfl)
  have k3857 : H3839 m 6 = H m 6 := (f3844 m 6 _ gm rfl)
  have k3858 : H3839 x 11 = H x 11 := (f3844 x 11 _ gx rfl)
  have k3859 : H3839 m 13 = H m 13 := (f3844 m 13 _ gm rfl)
  have k3860 : H3839 x 8 = H x 8 := (f3844 x 8 _ gx rfl)
  have k3861 : H3839 m 3 = H m 3 := (f3844 m 3 _ gm rfl)
  rw [show H3839 0 ((i + 2).toNat) = H 0 ((i + 2).toNat) by omega]
  rw [show H3839 0 ((i + 1).toNat) = H 0 ((i + 1).toNat) by omega]
  have h3862 : RB T H3839 m e8 d8 := (RB_fr hW gm f3844 rfl hrb8)
  have h3863 : KNN T H3839 m e8 d8 := (KNN_fr hW gm f3844 rfl hknn8)
  refine wl_of hX hb cL_987 (xc_V (pc' := 990) (r := m) (as := [vI (H 0 ((i + 1).toNat)), vI (H 0 ((i + 2).toNat))]) (st := []) (lm_11_129) rfl rfl (Nat.le_of_ble_eq_true rfl) w3843 gm sh_42 (by decide) rfl (by decide) (u_259 (e := e8) (d := d8) w3843 gm ⟨by omega, by omega⟩ ⟨by omega, by omega⟩ (by omega) (by assumption) (by assumption) (by assumption) (by assumption) h3862 h3863) (fun R3864 T3865 H3866 p3867 => ?_))
  obtain ⟨e3868, w3870, f3871, z3872, e3869, b3873, p3874⟩ := p3867
  subst e3868
  subst e3869
  obtain ⟨a3875, a3876⟩ := p3874
  show WL _ _ _ _ 990 [(4, vI i), (3, .ref o), (2, .ref m), (1, .ref x), (0, .ref 0)] [vI z3872] _ H3866
  refine wl_of hX hb cL_990 (rw_pop (pc' := 991) rfl rfl ?_)
  refine wl_of hX hb cL_991 (rw_goto (p1 := 1653) (by decide) ?_)
  have k3877 : H3866 x 9 = H3839 x 9 := (f3871 x 9 _ gx rfl)
  have k3878 : H3866 m 6 = H3839 m 6 := (f3871 m 6 _ gm rfl)
  have k3879 : H3866 x 11 = H3839 x 11 := (f3871 x 11 _ gx rfl)
  have k3880 : H3866 m 13 = H3839 m 13 := (f3871 m 13 _ gm rfl)
  have k3881 : H3866 x 8 = H3839 x 8 := (f3871 x 8 _ gx rfl)
  have k3882 : H3866 m 3 = H3839 m 3 := (f3871 m 3 _ gm rfl)
  have k3883 : H3866 x 0 = H x 0 := ((f3871 x 0 _ gx rfl).trans (f3844 x 0 _ gx rfl))
  have q3884 : H3866 x 0 = (tc : Int) := k3883.trans e0
  have k3885 : H3866 m 5 = H m 5 := ((f3871 m 5 _ gm rfl).trans (f3844 m 5 _ gm rfl))
  have q3886 : H3866 m 5 = (tm : Int) := k3885.trans em
  have k3887 : H3866 x 6 = H x 6 := ((f3871 x 6 _ gx rfl).trans (f3844 x 6 _ gx rfl))
  have q3888 : H3866 x 6 = (cu : Int) := k3887.trans ecu
  have k3889 : H3866 x 7 = H x 7 := ((f3871 x 7 _ gx rfl).trans (f3844 x 7 _ gx rfl))
  have q3890 : H3866 x 7 = (dr : Int) := k3889.trans edr
  have h3891 : CEN T H3866 ce8 e8 d8 := (CEN_fr w3843 gce8 f3871 rfl p3847)
  have h3892 : TP T H3866 tc B := (TP_fr w3843 gtc f3871 rfl (TP_fr hW gtc f3844 rfl htc))
  have h3893 : TM T H3866 tm B := (TM_fr w3843 gtm f3871 rfl (TM_fr hW gtm f3844 rfl htm))
  have h3894 : DD T H3866 cu  := (DD_fr w3843 gcu f3871 rfl (DD_fr hW gcu f3844 rfl hcu))
  have h3895 : DD T H3866 dr  := (DD_fr w3843 gdr f3871 rfl (DD_fr hW gdr f3844 rfl hdr))
  have h3896 : DE T H3866 cu  := (DE_fr w3843 gcu f3871 rfl (DE_fr hW gcu f3844 rfl hdec))
  have h3897 : DE T H3866 dr  := (DE_fr w3843 gdr f3871 rfl (DE_fr hW gdr f3844 rfl hded))
  have h3898 : SP T H3866 x C8 := (SP_fr w3843 gx f3871 rfl (SP_fr hW gx f3844 rfl hsp))
  have h3899 : CU T H3866 cu e8 d8 n8 := (CU_fr w3843 gcu f3871 rfl (CU_fr hW gcu f3844 rfl hcu8))
  have h3900 : CY T H3866 cu (d8 0 3) g8 (H cu 17) := (CY_fr w3843 gcu f3871 rfl (CY_fr hW gcu f3844 rfl h3832))
  have k3901 : H3866 x 3 = H x 3 := ((f3871 x 3 _ gx rfl).trans (f3844 x 3 _ gx rfl))
  have q3902 : H3866 x 3 = (ce8 : Int) := k3901.trans ece8
  have h3903 : HDR T H3866 ce8  := (HDR_fr w3843 gce8 f3871 rfl (HDR_fr hW gce8 f3844 rfl hhdr8))
  have h3904 : RY T H3866 m (d8 0 3) g8 (H m 32) := (RY_fr w3843 gm f3871 rfl (RY_fr hW gm f3844 rfl h3833))
  have h3905 : RB T H3866 m e8 d8 := (RB_fr w3843 gm f3871 rfl h3862)
  exact WL.loc hX (by simp) (next T H3866 ⟨⟨w3870, g0, gx, gm, go, by omega, by omega⟩, ⟨_, tc, tm, cu, dr, _, _, _, _, _, ce8, q3884, gtc, h3892, q3886, gtm, h3893, q3888, gcu, q3890, gdr, h3894, h3895, h3896, h3897, h3898, hC1, hC2, h3899, h3905, (h3900).1, (h3904).1, hE, hZ, (by omega), (by assumption), (by omega), (by first | assumption | exact SG_0), q3902, gce8, h3891, h3903, a3876, gm⟩, by omega, by omega⟩ (by omega) (by omega))
set_option maxHeartbeats 4000000 in
theorem wl_c26 {kt : Nat → Option mc_E} {CB SB : Nat} {X : mc_S → Prop} {T : wq_T} {H : wq_H} {Len x m o : Nat} {i : Int} (hX : wlX kt CB SB X) (hb : T.2.1 ≤ CB ∧ T.2.2.1 ≤ SB) (hI : wlJ Len x m o T H) (hL : Len ≤ 3072) (hi : 0 ≤ i ∧ i + 6 ≤ Len) (hb2 : T.2.1 + 20 ≤ CB ∧ T.2.2.1 + 500 ≤ SB)  (next : ∀ T' H', wlJ Len x m o T' H' → T'.2.1 ≤ T.2.1 + 20 → T'.2.2.1 ≤ T.2.2.1 + 500 → WL kt CB SB X 1653 (wlL i x m o) [] T' H') : WL kt CB SB X 994 (wlL i x m o) [] T H := by
  obtain ⟨⟨hW, g0, gx, gm, go, hK, hr⟩, hXI, hY1, hY2⟩ := hI
  refine wl_of hX hb cL_994 (rw_aload_n (pc' := 995) (v := .ref x) rfl rfl rfl ?_)
  refine wl_of hX hb cL_995 (rw_aload_n (pc' := 996) (v := .ref 0) rfl rfl rfl ?_)
  refine wl_of hX hb cL_996 (rw_iload (pc' := 998) (z := i) rfl rfl ?_)
  refine wl_of hX hb cL_998 (rw_iconst (pc' := 999) rfl ?_)
  refine wl_of hX hb cL_999 (rw_iadd (pc' := 1000) rfl ?_)
  refine wl_of hX hb cL_1000 (xa_I (so := 0) (pc' := 1001) (a := 0) hW g0 (wsh_s _) (by omega) (wty_s _ _) (by omega) (by omega) rfl (fun b3906 b3907 => ?_))
  obtain ⟨B, tc, tm, cu, dr, C8, e8, d8, n8, g8, ce8, e0, gtc, htc, em, gtm, htm, ecu, gcu, edr, gdr, hcu, hdr, hdec, hded, hsp, hC1, hC2, hcu8, hrb8, hcg8, hmn8, hE, hZ, hn8, hXA, hV8, hSG, ece8, gce8, hcen8, hhdr8, hknn8, -⟩ := hXI
  have hN3 := RB_n3 hrb8
  have hE13 : ∀ h : Nat, h < 24 → 0 ≤ e8 13 h ∧ e8 13 h ≤ 100 := fun k hk => by
    obtain ⟨s, h1, h2, h3⟩ := hcu8.1.2.2.1
    exact ⟨(h3 k hk).1, (h3 k hk).2.1⟩
  have hXW := hXA.1
  have hXN := hXA.2
  have hE0 : e8 0 3 = d8 0 3 ∧ e8 0 0 = d8 0 0 := by
    have h := hE 0 (by decide)
    exact ⟨congrFun h 3, congrFun h 0⟩
  have u3908 := CU_k hcu8
  have h3909 : CY T H cu (d8 0 3) g8 (H cu 17) := ⟨hcg8, rfl⟩
  have h3910 : RY T H m (d8 0 3) g8 (H m 32) := ⟨hmn8, rfl⟩
  obtain ⟨t9, ht9⟩ : ∃ t : Int, t = H x 9 := ⟨_, rfl⟩
  obtain ⟨y9, hy9⟩ : ∃ y : Int, y = H 0 ((i + 1).toNat) := ⟨_, rfl⟩
  obtain ⟨r3911, q3912, g3913⟩ := hW.ref gx (t' := 6) (n := 13) (j := 2) (p := 0) (q := 0) rfl (by decide) rfl
  refine wl_of hX hb cL_1001 (xc_V (pc' := 1004) (r := x) (as := [vI (H 0 ((i + 1).toNat))]) (st := []) (lm_11_130) rfl rfl (Nat.le_of_ble_eq_true rfl) hW gx sh_1 (by decide) rfl (by decide) (u_112 (e := e8) (d := d8) (n := n8) hW gx ⟨by omega, by omega⟩ ecu gcu q3912 g3913 ece8 gce8 (by assumption) (by assumption) (by omega) (by omega) (by omega) (by omega) hcu8 hcen8 hhdr8) (fun R3914 T3915 H3916 p3917 => ?_))
  obtain ⟨e3918, w3920, f3921, z3922, e3919, b3923, p3924⟩ := p3917
  subst e3918
  subst e3919
  show WL _ _ _ _ 1004 [(4, vI i), (3, .ref o), (2, .ref m), (1, .ref x), (0, .ref 0)] [vL z3922] _ H3916
  refine wl_of hX hb cL_1004 (rw_pop2 (pc' := 1005) rfl rfl ?_)
  refine wl_of hX hb cL_1005 (rw_aload_n (pc' := 1006) (v := .ref m) rfl rfl rfl ?_)
  refine wl_of hX hb cL_1006 (rw_aload_n (pc' := 1007) (v := .ref 0) rfl rfl rfl ?_)
  refine wl_of hX hb cL_1007 (rw_iload (pc' := 1009) (z := i) rfl rfl ?_)
  refine wl_of hX hb cL_1009 (rw_iconst (pc' := 1010) rfl ?_)
  refine wl_of hX hb cL_1010 (rw_iadd (pc' := 1011) rfl ?_)
  have k3928 : H3916 0 ((i + 1).toNat) = H 0 ((i + 1).toNat) := (f3921 0 ((i + 1).toNat) _ g0 (wmem_s rfl))
  refine wl_of hX hb cL_1011 (xa_I (so := 0) (pc' := 1012) (a := 0) w3920 g0 (wsh_s _) (by omega) (wty_s _ _) (by omega) (by omega) rfl (fun b3926 b3927 => ?_))
  have k3929 : wKI H3916 m = wKI H m := (wKI_fr hW gm f3921 rfl)
  have k3930 : H3916 x 9 = H x 9 := (f3921 x 9 _ gx rfl)
  have k3931 : H3916 m 6 = H m 6 := (f3921 m 6 _ gm rfl)
  have k3932 : H3916 x 11 = H x 11 := (f3921 x 11 _ gx rfl)
  have k3933 : H3916 m 13 = H m 13 := (f3921 m 13 _ gm rfl)
  have k3934 : H3916 x 8 = H x 8 := (f3921 x 8 _ gx rfl)
  have k3935 : H3916 m 3 = H m 3 := (f3921 m 3 _ gm rfl)
  rw [show H3916 0 ((i + 1).toNat) = H 0 ((i + 1).toNat) by omega]
  have h3936 : RB T H3916 m e8 d8 := (RB_fr hW gm f3921 rfl hrb8)
  have h3937 : KNN T H3916 m e8 d8 := (KNN_fr hW gm f3921 rfl hknn8)
  refine wl_of hX hb cL_1012 (xc_V (pc' := 1015) (r := m) (as := [vI (H 0 ((i + 1).toNat))]) (st := []) (lm_11_134) rfl rfl (Nat.le_of_ble_eq_true rfl) w3920 gm sh_42 (by decide) rfl (by decide) (u_260 (e := e8) (d := d8) w3920 gm ⟨by omega, by omega⟩ (by omega) (by assumption) (by assumption) (by assumption) (by assumption) h3936 h3937) (fun R3938 T3939 H3940 p3941 => ?_))
  obtain ⟨e3942, w3944, f3945, z3946, e3943, b3947, p3948⟩ := p3941
  subst e3942
  subst e3943
  obtain ⟨a3949, a3950⟩ := p3948
  show WL _ _ _ _ 1015 [(4, vI i), (3, .ref o), (2, .ref m), (1, .ref x), (0, .ref 0)] [vL z3946] _ H3940
  refine wl_of hX hb cL_1015 (rw_pop2 (pc' := 1016) rfl rfl ?_)
  refine wl_of hX hb cL_1016 (rw_goto (p1 := 1653) (by decide) ?_)
  have k3951 : H3940 x 9 = H3916 x 9 := (f3945 x 9 _ gx rfl)
  have k3952 : H3940 m 6 = H3916 m 6 := (f3945 m 6 _ gm rfl)
  have k3953 : H3940 x 11 = H3916 x 11 := (f3945 x 11 _ gx rfl)
  have k3954 : H3940 m 13 = H3916 m 13 := (f3945 m 13 _ gm rfl)
  have k3955 : H3940 x 8 = H3916 x 8 := (f3945 x 8 _ gx rfl)
  have k3956 : H3940 m 3 = H3916 m 3 := (f3945 m 3 _ gm rfl)
  have k3957 : H3940 x 0 = H x 0 := ((f3945 x 0 _ gx rfl).trans (f3921 x 0 _ gx rfl))
  have q3958 : H3940 x 0 = (tc : Int) := k3957.trans e0
  have k3959 : H3940 m 5 = H m 5 := ((f3945 m 5 _ gm rfl).trans (f3921 m 5 _ gm rfl))
  have q3960 : H3940 m 5 = (tm : Int) := k3959.trans em
  have k3961 : H3940 x 6 = H x 6 := ((f3945 x 6 _ gx rfl).trans (f3921 x 6 _ gx rfl))
  have q3962 : H3940 x 6 = (cu : Int) := k3961.trans ecu
  have k3963 : H3940 x 7 = H x 7 := ((f3945 x 7 _ gx rfl).trans (f3921 x 7 _ gx rfl))
  have q3964 : H3940 x 7 = (dr : Int) := k3963.trans edr
  have h3965 : CEN T H3940 ce8 e8 d8 := (CEN_fr w3920 gce8 f3945 rfl p3924)
  have h3966 : TP T H3940 tc B := (TP_fr w3920 gtc f3945 rfl (TP_fr hW gtc f3921 rfl htc))
  have h3967 : TM T H3940 tm B := (TM_fr w3920 gtm f3945 rfl (TM_fr hW gtm f3921 rfl htm))
  have h3968 : DD T H3940 cu  := (DD_fr w3920 gcu f3945 rfl (DD_fr hW gcu f3921 rfl hcu))
  have h3969 : DD T H3940 dr  := (DD_fr w3920 gdr f3945 rfl (DD_fr hW gdr f3921 rfl hdr))
  have h3970 : DE T H3940 cu  := (DE_fr w3920 gcu f3945 rfl (DE_fr hW gcu f3921 rfl hdec))
  have h3971 : DE T H3940 dr  := (DE_fr w3920 gdr f3945 rfl (DE_fr hW gdr f3921 rfl hded))
  have h3972 : SP T H3940 x C8 := (SP_fr w3920 gx f3945 rfl (SP_fr hW gx f3921 rfl hsp))
  have h3973 : CU T H3940 cu e8 d8 n8 := (CU_fr w3920 gcu f3945 rfl (CU_fr hW gcu f3921 rfl hcu8))
  have h3974 : CY T H3940 cu (d8 0 3) g8 (H cu 17) := (CY_fr w3920 gcu f3945 rfl (CY_fr hW gcu f3921 rfl h3909))
  have k3975 : H3940 x 3 = H x 3 := ((f3945 x 3 _ gx rfl).trans (f3921 x 3 _ gx rfl))
  have q3976 : H3940 x 3 = (ce8 : Int) := k3975.trans ece8
  have h3977 : HDR T H3940 ce8  := (HDR_fr w3920 gce8 f3945 rfl (HDR_fr hW gce8 f3921 rfl hhdr8))
  have h3978 : RY T H3940 m (d8 0 3) g8 (H m 32) := (RY_fr w3920 gm f3945 rfl (RY_fr hW gm f3921 rfl h3910))
  have h3979 : RB T H3940 m e8 d8 := (RB_fr w3920 gm f3945 rfl h3936)
  exact WL.loc hX (by simp) (next T H3940 ⟨⟨w3944, g0, gx, gm, go, by omega, by omega⟩, ⟨_, tc, tm, cu, dr, _, _, _, _, _, ce8, q3958, gtc, h3966, q3960, gtm, h3967, q3962, gcu, q3964, gdr, h3968, h3969, h3970, h3971, h3972, hC1, hC2, h3973, h3979, (h3974).1, (h3978).1, hE, hZ, (by omega), (by assumption), (by omega), (by first | assumption | exact SG_0), q3976, gce8, h3965, h3977, a3950, gm⟩, by omega, by omega⟩ (by omega) (by omega))
set_option maxHeartbeats 4000000 in
theorem wl_c27 {kt : Nat → Option mc_E} {CB SB : Nat} {X : mc_S → Prop} {T : wq_T} {H : wq_H} {Len x m o : Nat} {i : Int} (hX : wlX kt CB SB X) (hb : T.2.1 ≤ CB ∧ T.2.2.1 ≤ SB) (hI : wlJ Len x m o T H) (hL : Len ≤ 3072) (hi : 0 ≤ i ∧ i + 6 ≤ Len) (hb2 : T.2.1 + 20 ≤ CB ∧ T.2.2.1 + 500 ≤ SB)  (next : ∀ T' H', wlJ Len x m o T' H' → T'.2.1 ≤ T.2.1 + 20 → T'.2.2.1 ≤ T.2.2.1 + 500 → WL kt CB SB X 1653 (wlL i x m o) [] T' H') : WL kt CB SB X 1019 (wlL i x m o) [] T H := by
  obtain ⟨⟨hW, g0, gx, gm, go, hK, hr⟩, hXI, hY1, hY2⟩ := hI
  refine wl_of hX hb cL_1019 (rw_aload_n (pc' := 1020) (v := .ref x) rfl rfl rfl ?_)
  refine wl_of hX hb cL_1020 (rw_aload_n (pc' := 1021) (v := .ref 0) rfl rfl rfl ?_)
  refine wl_of hX hb cL_1021 (rw_iload (pc' := 1023) (z := i) rfl rfl ?_)
  refine wl_of hX hb cL_1023 (rw_iconst (pc' := 1024) rfl ?_)
  refine wl_of hX hb cL_1024 (rw_iadd (pc' := 1025) rfl ?_)
  refine wl_of hX hb cL_1025 (xa_I (so := 0) (pc' := 1026) (a := 0) hW g0 (wsh_s _) (by omega) (wty_s _ _) (by omega) (by omega) rfl (fun b3980 b3981 => ?_))
  refine wl_of hX hb cL_1026 (rw_aload_n (pc' := 1027) (v := .ref 0) rfl rfl rfl ?_)
  refine wl_of hX hb cL_1027 (rw_iload (pc' := 1029) (z := i) rfl rfl ?_)
  refine wl_of hX hb cL_1029 (rw_iconst (pc' := 1030) rfl ?_)
  refine wl_of hX hb cL_1030 (rw_iadd (pc' := 1031) rfl ?_)
  refine wl_of hX hb cL_1031 (xa_I (so := 0) (pc' := 1032) (a := 0) hW g0 (wsh_s _) (by omega) (wty_s _ _) (by omega) (by omega) rfl (fun b3982 b3983 => ?_))
  obtain ⟨B, tc, tm, cu, dr, C8, e8, d8, n8, g8, ce8, e0, gtc, htc, em, gtm, htm, ecu, gcu, edr, gdr, hcu, hdr, hdec, hded, hsp, hC1, hC2, hcu8, hrb8, hcg8, hmn8, hE, hZ, hn8, hXA, hV8, hSG, ece8, gce8, hcen8, hhdr8, hknn8, -⟩ := hXI
  have hN3 := RB_n3 hrb8
  have hE13 : ∀ h : Nat, h < 24 → 0 ≤ e8 13 h ∧ e8 13 h ≤ 100 := fun k hk => by
    obtain ⟨s, h1, h2, h3⟩ := hcu8.1.2.2.1
    exact ⟨(h3 k hk).1, (h3 k hk).2.1⟩
  have hXW := hXA.1
  have hXN := hXA.2
  have hE0 : e8 0 3 = d8 0 3 ∧ e8 0 0 = d8 0 0 := by
    have h := hE 0 (by decide)
    exact ⟨congrFun h 3, congrFun h 0⟩
  have u3984 := CU_k hcu8
  have h3985 : CY T H cu (d8 0 3) g8 (H cu 17) := ⟨hcg8, rfl⟩
  have h3986 : RY T H m (d8 0 3) g8 (H m 32) := ⟨hmn8, rfl⟩
  obtain ⟨t9, ht9⟩ : ∃ t : Int, t = H x 9 := ⟨_, rfl⟩
  obtain ⟨y9, hy9⟩ : ∃ y : Int, y = H 0 ((i + 2).toNat) := ⟨_, rfl⟩
  obtain ⟨r3987, q3988, g3989⟩ := hW.ref gx (t' := 6) (n := 13) (j := 2) (p := 0) (q := 0) rfl (by decide) rfl
  refine wl_of hX hb cL_1032 (xc_V (pc' := 1035) (r := x) (as := [vI (H 0 ((i + 1).toNat)), vI (H 0 ((i + 2).toNat))]) (st := []) (lm_11_135) rfl rfl (Nat.le_of_ble_eq_true rfl) hW gx sh_1 (by decide) rfl (by decide) (u_114 (e := e8) (d := d8) (n := n8) hW gx ⟨by omega, by omega⟩ ⟨by omega, by omega⟩ ecu gcu q3988 g3989 ece8 gce8 (by assumption) (by assumption) (by omega) (by omega) (by omega) (by omega) hcu8 hcen8 hhdr8) (fun R3990 T3991 H3992 p3993 => ?_))
  obtain ⟨e3994, w3996, f3997, z3998, e3995, b3999, p4000⟩ := p3993
  subst e3994
  subst e3995
  show WL _ _ _ _ 1035 [(4, vI i), (3, .ref o), (2, .ref m), (1, .ref x), (0, .ref 0)] [vI z3998] _ H3992
  refine wl_of hX hb cL_1035 (rw_pop (pc' := 1036) rfl rfl ?_)
  refine wl_of hX hb cL_1036 (rw_aload_n (pc' := 1037) (v := .ref m) rfl rfl rfl ?_)
  refine wl_of hX hb cL_1037 (rw_aload_n (pc' := 1038) (v := .ref 0) rfl rfl rfl ?_)
  refine wl_of hX hb cL_1038 (rw_iload (pc' := 1040) (z := i) rfl rfl ?_)
  refine wl_of hX hb cL_1040 (rw_iconst (pc' := 1041) rfl ?_)
  refine wl_of hX hb cL_1041 (rw_iadd (pc' := 1042) rfl ?_)
  have k4004 : H3992 0 ((i + 1).toNat) = H 0 ((i + 1).toNat) := (f3997 0 ((i + 1).toNat) _ g0 (wmem_s rfl))
  refine wl_of hX hb cL_1042 (xa_I (so := 0) (pc' := 1043) (a := 0) w3996 g0 (wsh_s _) (by omega) (wty_s _ _) (by omega) (by omega) rfl (fun b4002 b4003 => ?_))
  refine wl_of hX hb cL_1043 (rw_aload_n (pc' := 1044) (v := .ref 0) rfl rfl rfl ?_)
  refine wl_of hX hb cL_1044 (rw_iload (pc' := 1046) (z := i) rfl rfl ?_)
  refine wl_of hX hb cL_1046 (rw_iconst (pc' := 1047) rfl ?_)
  refine wl_of hX hb cL_1047 (rw_iadd (pc' := 1048) rfl ?_)
  have k4007 : H3992 0 ((i + 2).toNat) = H 0 ((i + 2).toNat) := (f3997 0 ((i + 2).toNat) _ g0 (wmem_s rfl))
  refine wl_of hX hb cL_1048 (xa_I (so := 0) (pc' := 1049) (a := 0) w3996 g0 (wsh_s _) (by omega) (wty_s _ _) (by omega) (by omega) rfl (fun b4005 b4006 => ?_))
  have k4008 : wKI H3992 m = wKI H m := (wKI_fr hW gm f3997 rfl)
  have k4009 : H3992 x 9 = H x 9 := (f3997 x 9 _ gx rfl)
  have k4010 : H3992 m 6 = H m 6 := (f3997 m 6 _ gm rfl)
  have k4011 : H3992 x 11 = H x 11 := (f3997 x 11 _ gx rfl)
  have k4012 : H3992 m 13 = H m 13 := (f3997 m 13 _ gm rfl)
  have k4013 : H3992 x 8 = H x 8 := (f3997 x 8 _ gx rfl)
  have k4014 : H3992 m 3 = H m 3 := (f3997 m 3 _ gm rfl)
  rw [show H3992 0 ((i + 2).toNat) = H 0 ((i + 2).toNat) by omega]
  rw [show H3992 0 ((i + 1).toNat) = H 0 ((i + 1).toNat) by omega]
  have h4015 : RB T H3992 m e8 d8 := (RB_fr hW gm f3997 rfl hrb8)
  have h4016 : KNN T H3992 m e8 d8 := (KNN_fr hW gm f3997 rfl hknn8)
  refine wl_of hX hb cL_1049 (xc_V (pc' := 1052) (r := m) (as := [vI (H 0 ((i + 1).toNat)), vI (H 0 ((i + 2).toNat))]) (st := []) (lm_11_138) rfl rfl (Nat.le_of_ble_eq_true rfl) w3996 gm sh_42 (by decide) rfl (by decide) (u_261 (e := e8) (d := d8) w3996 gm ⟨by omega, by omega⟩ ⟨by omega, by omega⟩ (by omega) (by assumption) (by assumption) (by assumption) (by assumption) h4015 h4016) (fun R4017 T4018 H4019 p4020 => ?_))
  obtain ⟨e4021, w4023, f4024, z4025, e4022, b4026, p4027⟩ := p4020
  subst e4021
  subst e4022
  obtain ⟨a4028, a4029⟩ := p4027
  show WL _ _ _ _ 1052 [(4, vI i), (3, .ref o), (2, .ref m), (1, .ref x), (0, .ref 0)] [vI z4025] _ H4019
  refine wl_of hX hb cL_1052 (rw_pop (pc' := 1053) rfl rfl ?_)
  refine wl_of hX hb cL_1053 (rw_goto (p1 := 1653) (by decide) ?_)
  have k4030 : H4019 x 9 = H3992 x 9 := (f4024 x 9 _ gx rfl)
  have k4031 : H4019 m 6 = H3992 m 6 := (f4024 m 6 _ gm rfl)
  have k4032 : H4019 x 11 = H3992 x 11 := (f4024 x 11 _ gx rfl)
  have k4033 : H4019 m 13 = H3992 m 13 := (f4024 m 13 _ gm rfl)
  have k4034 : H4019 x 8 = H3992 x 8 := (f4024 x 8 _ gx rfl)
  have k4035 : H4019 m 3 = H3992 m 3 := (f4024 m 3 _ gm rfl)
  have k4036 : H4019 x 0 = H x 0 := ((f4024 x 0 _ gx rfl).trans (f3997 x 0 _ gx rfl))
  have q4037 : H4019 x 0 = (tc : Int) := k4036.trans e0
  have k4038 : H4019 m 5 = H m 5 := ((f4024 m 5 _ gm rfl).trans (f3997 m 5 _ gm rfl))
  have q4039 : H4019 m 5 = (tm : Int) := k4038.trans em
  have k4040 : H4019 x 6 = H x 6 := ((f4024 x 6 _ gx rfl).trans (f3997 x 6 _ gx rfl))
  have q4041 : H4019 x 6 = (cu : Int) := k4040.trans ecu
  have k4042 : H4019 x 7 = H x 7 := ((f4024 x 7 _ gx rfl).trans (f3997 x 7 _ gx rfl))
  have q4043 : H4019 x 7 = (dr : Int) := k4042.trans edr
  have h4044 : CEN T H4019 ce8 e8 d8 := (CEN_fr w3996 gce8 f4024 rfl p4000)
  have h4045 : TP T H4019 tc B := (TP_fr w3996 gtc f4024 rfl (TP_fr hW gtc f3997 rfl htc))
  have h4046 : TM T H4019 tm B := (TM_fr w3996 gtm f4024 rfl (TM_fr hW gtm f3997 rfl htm))
  have h4047 : DD T H4019 cu  := (DD_fr w3996 gcu f4024 rfl (DD_fr hW gcu f3997 rfl hcu))
  have h4048 : DD T H4019 dr  := (DD_fr w3996 gdr f4024 rfl (DD_fr hW gdr f3997 rfl hdr))
  have h4049 : DE T H4019 cu  := (DE_fr w3996 gcu f4024 rfl (DE_fr hW gcu f3997 rfl hdec))
  have h4050 : DE T H4019 dr  := (DE_fr w3996 gdr f4024 rfl (DE_fr hW gdr f3997 rfl hded))
  have h4051 : SP T H4019 x C8 := (SP_fr w3996 gx f4024 rfl (SP_fr hW gx f3997 rfl hsp))
  have h4052 : CU T H4019 cu e8 d8 n8 := (CU_fr w3996 gcu f4024 rfl (CU_fr hW gcu f3997 rfl hcu8))
  have h4053 : CY T H4019 cu (d8 0 3) g8 (H cu 17) := (CY_fr w3996 gcu f4024 rfl (CY_fr hW gcu f3997 rfl h3985))
  have k4054 : H4019 x 3 = H x 3 := ((f4024 x 3 _ gx rfl).trans (f3997 x 3 _ gx rfl))
  have q4055 : H4019 x 3 = (ce8 : Int) := k4054.trans ece8
  have h4056 : HDR T H4019 ce8  := (HDR_fr w3996 gce8 f4024 rfl (HDR_fr hW gce8 f3997 rfl hhdr8))
  have h4057 : RY T H4019 m (d8 0 3) g8 (H m 32) := (RY_fr w3996 gm f4024 rfl (RY_fr hW gm f3997 rfl h3986))
  have h4058 : RB T H4019 m e8 d8 := (RB_fr w3996 gm f4024 rfl h4015)
  exact WL.loc hX (by simp) (next T H4019 ⟨⟨w4023, g0, gx, gm, go, by omega, by omega⟩, ⟨_, tc, tm, cu, dr, _, _, _, _, _, ce8, q4037, gtc, h4045, q4039, gtm, h4046, q4041, gcu, q4043, gdr, h4047, h4048, h4049, h4050, h4051, hC1, hC2, h4052, h4058, (h4053).1, (h4057).1, hE, hZ, (by omega), (by assumption), (by omega), (by first | assumption | exact SG_0), q4055, gce8, h4044, h4056, a4029, gm⟩, by omega, by omega⟩ (by omega) (by omega))
set_option maxHeartbeats 4000000 in
theorem wl_c28 {kt : Nat → Option mc_E} {CB SB : Nat} {X : mc_S → Prop} {T : wq_T} {H : wq_H} {Len x m o : Nat} {i : Int} (hX : wlX kt CB SB X) (hb : T.2.1 ≤ CB ∧ T.2.2.1 ≤ SB) (hI : wlJ Len x m o T H) (hL : Len ≤ 3072) (hi : 0 ≤ i ∧ i + 6 ≤ Len) (hb2 : T.2.1 + 20 ≤ CB ∧ T.2.2.1 + 500 ≤ SB)  (next : ∀ T' H', wlJ Len x m o T' H' → T'.2.1 ≤ T.2.1 + 20 → T'.2.2.1 ≤ T.2.2.1 + 500 → WL kt CB SB X 1653 (wlL i x m o) [] T' H') : WL kt CB SB X 1056 (wlL i x m o) [] T H := by
  obtain ⟨⟨hW, g0, gx, gm, go, hK, hr⟩, hXI, hY1, hY2⟩ := hI
  refine wl_of hX hb cL_1056 (rw_aload_n (pc' := 1057) (v := .ref x) rfl rfl rfl ?_)
  refine wl_of hX hb cL_1057 (rw_aload_n (pc' := 1058) (v := .ref 0) rfl rfl rfl ?_)
  refine wl_of hX hb cL_1058 (rw_iload (pc' := 1060) (z := i) rfl rfl ?_)
  refine wl_of hX hb cL_1060 (rw_iconst (pc' := 1061) rfl ?_)
  refine wl_of hX hb cL_1061 (rw_iadd (pc' := 1062) rfl ?_)
  refine wl_of hX hb cL_1062 (xa_I (so := 0) (pc' := 1063) (a := 0) hW g0 (wsh_s _) (by omega) (wty_s _ _) (by omega) (by omega) rfl (fun b4059 b4060 => ?_))
  refine wl_of hX hb cL_1063 (rw_aload_n (pc' := 1064) (v := .ref 0) rfl rfl rfl ?_)
  refine wl_of hX hb cL_1064 (rw_iload (pc' := 1066) (z := i) rfl rfl ?_)
  refine wl_of hX hb cL_1066 (rw_iconst (pc' := 1067) rfl ?_)
  refine wl_of hX hb cL_1067 (rw_iadd (pc' := 1068) rfl ?_)
  refine wl_of hX hb cL_1068 (xa_I (so := 0) (pc' := 1069) (a := 0) hW g0 (wsh_s _) (by omega) (wty_s _ _) (by omega) (by omega) rfl (fun b4061 b4062 => ?_))
  refine wl_of hX hb cL_1069 (rw_if_eq (p1 := 1076) (p2 := 1072) (by decide) rfl ⟨by omega, by omega⟩ (fun c4063 => ?_) (fun c4063 => ?_))
  · refine wl_of hX hb cL_1076 (rw_iconst (pc' := 1077) rfl ?_)
    obtain ⟨B, tc, tm, cu, dr, C8, e8, d8, n8, g8, ce8, e0, gtc, htc, em, gtm, htm, ecu, gcu, edr, gdr, hcu, hdr, hdec, hded, hsp, hC1, hC2, hcu8, hrb8, hcg8, hmn8, hE, hZ, hn8, hXA, hV8, hSG, ece8, gce8, hcen8, hhdr8, hknn8, -⟩ := hXI
    have hN3 := RB_n3 hrb8
    have hE13 : ∀ h : Nat, h < 24 → 0 ≤ e8 13 h ∧ e8 13 h ≤ 100 := fun k hk => by
      obtain ⟨s, h1, h2, h3⟩ := hcu8.1.2.2.1
      exact ⟨(h3 k hk).1, (h3 k hk).2.1⟩
    have hXW := hXA.1
    have hXN := hXA.2
    have hE0 : e8 0 3 = d8 0 3 ∧ e8 0 0 = d8 0 0 := by
      have h := hE 0 (by decide)
      exact ⟨congrFun h 3, congrFun h 0⟩
    have u4064 := CU_k hcu8
    have h4065 : CY T H cu (d8 0 3) g8 (H cu 17) := ⟨hcg8, rfl⟩
    have h4066 : RY T H m (d8 0 3) g8 (H m 32) := ⟨hmn8, rfl⟩
    obtain ⟨t9, ht9⟩ : ∃ t : Int, t = H x 9 := ⟨_, rfl⟩
    obtain ⟨y9, hy9⟩ : ∃ y : Int, y = 0 := ⟨_, rfl⟩
    obtain ⟨r4067, q4068, g4069⟩ := hW.ref gx (t' := 6) (n := 13) (j := 2) (p := 0) (q := 0) rfl (by decide) rfl
    refine wl_of hX hb cL_1077 (xc_V (pc' := 1080) (r := x) (as := [vI (H 0 ((i + 1).toNat)), vI 0]) (st := []) (lm_11_139) rfl rfl (Nat.le_of_ble_eq_true rfl) hW gx sh_1 (by decide) rfl (by decide) (u_117 (e := e8) (d := d8) (n := n8) hW gx ⟨by omega, by omega⟩ ⟨by decide, by decide⟩ ecu gcu q4068 g4069 ece8 gce8 (by assumption) (by assumption) (by omega) (by omega) (by omega) (by omega) hcu8 hcen8 hhdr8) (fun R4070 T4071 H4072 p4073 => ?_))
    obtain ⟨e4074, w4076, f4077, z4078, e4075, b4079, p4080⟩ := p4073
    subst e4074
    subst e4075
    show WL _ _ _ _ 1080 [(4, vI i), (3, .ref o), (2, .ref m), (1, .ref x), (0, .ref 0)] [vI z4078] _ H4072
    refine wl_of hX hb cL_1080 (rw_pop (pc' := 1081) rfl rfl ?_)
    refine wl_of hX hb cL_1081 (rw_aload_n (pc' := 1082) (v := .ref m) rfl rfl rfl ?_)
    refine wl_of hX hb cL_1082 (rw_aload_n (pc' := 1083) (v := .ref 0) rfl rfl rfl ?_)
    refine wl_of hX hb cL_1083 (rw_iload (pc' := 1085) (z := i) rfl rfl ?_)
    refine wl_of hX hb cL_1085 (rw_iconst (pc' := 1086) rfl ?_)
    refine wl_of hX hb cL_1086 (rw_iadd (pc' := 1087) rfl ?_)
    have k4084 : H4072 0 ((i + 1).toNat) = H 0 ((i + 1).toNat) := (f4077 0 ((i + 1).toNat) _ g0 (wmem_s rfl))
    refine wl_of hX hb cL_1087 (xa_I (so := 0) (pc' := 1088) (a := 0) w4076 g0 (wsh_s _) (by omega) (wty_s _ _) (by omega) (by omega) rfl (fun b4082 b4083 => ?_))
    refine wl_of hX hb cL_1088 (rw_aload_n (pc' := 1089) (v := .ref 0) rfl rfl rfl ?_)
    refine wl_of hX hb cL_1089 (rw_iload (pc' := 1091) (z := i) rfl rfl ?_)
    refine wl_of hX hb cL_1091 (rw_iconst (pc' := 1092) rfl ?_)
    refine wl_of hX hb cL_1092 (rw_iadd (pc' := 1093) rfl ?_)
    have k4087 : H4072 0 ((i + 2).toNat) = H 0 ((i + 2).toNat) := (f4077 0 ((i + 2).toNat) _ g0 (wmem_s rfl))
    refine wl_of hX hb cL_1093 (xa_I (so := 0) (pc' := 1094) (a := 0) w4076 g0 (wsh_s _) (by omega) (wty_s _ _) (by omega) (by omega) rfl (fun b4085 b4086 => ?_))
    refine wl_of hX hb cL_1094 (rw_if_eq (p1 := 1101) (p2 := 1097) (by decide) rfl ⟨by omega, by omega⟩ (fun c4088 => ?_) (fun c4088 => ?_))
    · refine wl_of hX hb cL_1101 (rw_iconst (pc' := 1102) rfl ?_)
      have k4089 : wKI H4072 m = wKI H m := (wKI_fr hW gm f4077 rfl)
      have k4090 : H4072 x 9 = H x 9 := (f4077 x 9 _ gx rfl)
      have k4091 : H4072 m 6 = H m 6 := (f4077 m 6 _ gm rfl)
      have k4092 : H4072 x 11 = H x 11 := (f4077 x 11 _ gx rfl)
      have k4093 : H4072 m 13 = H m 13 := (f4077 m 13 _ gm rfl)
      have k4094 : H4072 x 8 = H x 8 := (f4077 x 8 _ gx rfl)
      have k4095 : H4072 m 3 = H m 3 := (f4077 m 3 _ gm rfl)
      rw [show H4072 0 ((i + 1).toNat) = H 0 ((i + 1).toNat) by omega]
      have h4096 : RB T H4072 m e8 d8 := (RB_fr hW gm f4077 rfl hrb8)
      have h4097 : KNN T H4072 m e8 d8 := (KNN_fr hW gm f4077 rfl hknn8)
      refine wl_of hX hb cL_1102 (xc_V (pc' := 1105) (r := m) (as := [vI (H 0 ((i + 1).toNat)), vI 0]) (st := []) (lm_11_142) rfl rfl (Nat.le_of_ble_eq_true rfl) w4076 gm sh_42 (by decide) rfl (by decide) (u_263 (e := e8) (d := d8) w4076 gm ⟨by omega, by omega⟩ ⟨by decide, by decide⟩ (by omega) (by assumption) (by assumption) (by assumption) (by assumption) h4096 h4097) (fun R4098 T4099 H4100 p4101 => ?_))
      obtain ⟨e4102, w4104, f4105, z4106, e4103, b4107, p4108⟩ := p4101
      subst e4102
      subst e4103
      obtain ⟨a4109, a4110⟩ := p4108
      show WL _ _ _ _ 1105 [(4, vI i), (3, .ref o), (2, .ref m), (1, .ref x), (0, .ref 0)] [vI z4106] _ H4100
      refine wl_of hX hb cL_1105 (rw_pop (pc' := 1106) rfl rfl ?_)
      refine wl_of hX hb cL_1106 (rw_goto (p1 := 1653) (by decide) ?_)
      have k4111 : H4100 x 9 = H4072 x 9 := (f4105 x 9 _ gx rfl)
      have k4112 : H4100 m 6 = H4072 m 6 := (f4105 m 6 _ gm rfl)
      have k4113 : H4100 x 11 = H4072 x 11 := (f4105 x 11 _ gx rfl)
      have k4114 : H4100 m 13 = H4072 m 13 := (f4105 m 13 _ gm rfl)
      have k4115 : H4100 x 8 = H4072 x 8 := (f4105 x 8 _ gx rfl)
      have k4116 : H4100 m 3 = H4072 m 3 := (f4105 m 3 _ gm rfl)
      have k4117 : H4100 x 0 = H x 0 := ((f4105 x 0 _ gx rfl).trans (f4077 x 0 _ gx rfl))
      have q4118 : H4100 x 0 = (tc : Int) := k4117.trans e0
      have k4119 : H4100 m 5 = H m 5 := ((f4105 m 5 _ gm rfl).trans (f4077 m 5 _ gm rfl))
      have q4120 : H4100 m 5 = (tm : Int) := k4119.trans em
      have k4121 : H4100 x 6 = H x 6 := ((f4105 x 6 _ gx rfl).trans (f4077 x 6 _ gx rfl))
      have q4122 : H4100 x 6 = (cu : Int) := k4121.trans ecu
      have k4123 : H4100 x 7 = H x 7 := ((f4105 x 7 _ gx rfl).trans (f4077 x 7 _ gx rfl))
      have q4124 : H4100 x 7 = (dr : Int) := k4123.trans edr
      have h4125 : CEN T H4100 ce8 e8 d8 := (CEN_fr w4076 gce8 f4105 rfl p4080)
      have h4126 : TP T H4100 tc B := (TP_fr w4076 gtc f4105 rfl (TP_fr hW gtc f4077 rfl htc))
      have h4127 : TM T H4100 tm B := (TM_fr w4076 gtm f4105 rfl (TM_fr hW gtm f4077 rfl htm))
      have h4128 : DD T H4100 cu  := (DD_fr w4076 gcu f4105 rfl (DD_fr hW gcu f4077 rfl hcu))
      have h4129 : DD T H4100 dr  := (DD_fr w4076 gdr f4105 rfl (DD_fr hW gdr f4077 rfl hdr))
      have h4130 : DE T H4100 cu  := (DE_fr w4076 gcu f4105 rfl (DE_fr hW gcu f4077 rfl hdec))
      have h4131 : DE T H4100 dr  := (DE_fr w4076 gdr f4105 rfl (DE_fr hW gdr f4077 rfl hded))
      have h4132 : SP T H4100 x C8 := (SP_fr w4076 gx f4105 rfl (SP_fr hW gx f4077 rfl hsp))
      have h4133 : CU T H4100 cu e8 d8 n8 := (CU_fr w4076 gcu f4105 rfl (CU_fr hW gcu f4077 rfl hcu8))
      have h4134 : CY T H4100 cu (d8 0 3) g8 (H cu 17) := (CY_fr w4076 gcu f4105 rfl (CY_fr hW gcu f4077 rfl h4065))
      have k4135 : H4100 x 3 = H x 3 := ((f4105 x 3 _ gx rfl).trans (f4077 x 3 _ gx rfl))
      have q4136 : H4100 x 3 = (ce8 : Int) := k4135.trans ece8
      have h4137 : HDR T H4100 ce8  := (HDR_fr w4076 gce8 f4105 rfl (HDR_fr hW gce8 f4077 rfl hhdr8))
      have h4138 : RY T H4100 m (d8 0 3) g8 (H m 32) := (RY_fr w4076 gm f4105 rfl (RY_fr hW gm f4077 rfl h4066))
      have h4139 : RB T H4100 m e8 d8 := (RB_fr w4076 gm f4105 rfl h4096)
      exact WL.loc hX (by simp) (next T H4100 ⟨⟨w4104, g0, gx, gm, go, by omega, by omega⟩, ⟨_, tc, tm, cu, dr, _, _, _, _, _, ce8, q4118, gtc, h4126, q4120, gtm, h4127, q4122, gcu, q4124, gdr, h4128, h4129, h4130, h4131, h4132, hC1, hC2, h4133, h4139, (h4134).1, (h4138).1, hE, hZ, (by omega), (by assumption), (by omega), (by first | assumption | exact SG_0), q4136, gce8, h4125, h4137, a4110, gm⟩, by omega, by omega⟩ (by omega) (by omega))
    · exfalso
      omega
  · refine wl_of hX hb cL_1072 (rw_iconst (pc' := 1073) rfl ?_)
    refine wl_of hX hb cL_1073 (rw_goto (p1 := 1077) (by decide) ?_)
    obtain ⟨B, tc, tm, cu, dr, C8, e8, d8, n8, g8, ce8, e0, gtc, htc, em, gtm, htm, ecu, gcu, edr, gdr, hcu, hdr, hdec, hded, hsp, hC1, hC2, hcu8, hrb8, hcg8, hmn8, hE, hZ, hn8, hXA, hV8, hSG, ece8, gce8, hcen8, hhdr8, hknn8, -⟩ := hXI
    have hN3 := RB_n3 hrb8
    have hE13 : ∀ h : Nat, h < 24 → 0 ≤ e8 13 h ∧ e8 13 h ≤ 100 := fun k hk => by
      obtain ⟨s, h1, h2, h3⟩ := hcu8.1.2.2.1
      exact ⟨(h3 k hk).1, (h3 k hk).2.1⟩
    have hXW := hXA.1
    have hXN := hXA.2
    have hE0 : e8 0 3 = d8 0 3 ∧ e8 0 0 = d8 0 0 := by
      have h := hE 0 (by decide)
      exact ⟨congrFun h 3, congrFun h 0⟩
    have u4140 := CU_k hcu8
    have h4141 : CY T H cu (d8 0 3) g8 (H cu 17) := ⟨hcg8, rfl⟩
    have h4142 : RY T H m (d8 0 3) g8 (H m 32) := ⟨hmn8, rfl⟩
    obtain ⟨t9, ht9⟩ : ∃ t : Int, t = H x 9 := ⟨_, rfl⟩
    obtain ⟨y9, hy9⟩ : ∃ y : Int, y = 1 := ⟨_, rfl⟩
    obtain ⟨r4143, q4144, g4145⟩ := hW.ref gx (t' := 6) (n := 13) (j := 2) (p := 0) (q := 0) rfl (by decide) rfl
    refine wl_of hX hb cL_1077 (xc_V (pc' := 1080) (r := x) (as := [vI (H 0 ((i + 1).toNat)), vI 1]) (st := []) (lm_11_139) rfl rfl (Nat.le_of_ble_eq_true rfl) hW gx sh_1 (by decide) rfl (by decide) (u_117 (e := e8) (d := d8) (n := n8) hW gx ⟨by omega, by omega⟩ ⟨by decide, by decide⟩ ecu gcu q4144 g4145 ece8 gce8 (by assumption) (by assumption) (by omega) (by omega) (by omega) (by omega) hcu8 hcen8 hhdr8) (fun R4146 T4147 H4148 p4149 => ?_))
    obtain ⟨e4150, w4152, f4153, z4154, e4151, b4155, p4156⟩ := p4149
    subst e4150
    subst e4151
    show WL _ _ _ _ 1080 [(4, vI i), (3, .ref o), (2, .ref m), (1, .ref x), (0, .ref 0)] [vI z4154] _ H4148
    refine wl_of hX hb cL_1080 (rw_pop (pc' := 1081) rfl rfl ?_)
    refine wl_of hX hb cL_1081 (rw_aload_n (pc' := 1082) (v := .ref m) rfl rfl rfl ?_)
    refine wl_of hX hb cL_1082 (rw_aload_n (pc' := 1083) (v := .ref 0) rfl rfl rfl ?_)
    refine wl_of hX hb cL_1083 (rw_iload (pc' := 1085) (z := i) rfl rfl ?_)
    refine wl_of hX hb cL_1085 (rw_iconst (pc' := 1086) rfl ?_)
    refine wl_of hX hb cL_1086 (rw_iadd (pc' := 1087) rfl ?_)
    have k4160 : H4148 0 ((i + 1).toNat) = H 0 ((i + 1).toNat) := (f4153 0 ((i + 1).toNat) _ g0 (wmem_s rfl))
    refine wl_of hX hb cL_1087 (xa_I (so := 0) (pc' := 1088) (a := 0) w4152 g0 (wsh_s _) (by omega) (wty_s _ _) (by omega) (by omega) rfl (fun b4158 b4159 => ?_))
    refine wl_of hX hb cL_1088 (rw_aload_n (pc' := 1089) (v := .ref 0) rfl rfl rfl ?_)
    refine wl_of hX hb cL_1089 (rw_iload (pc' := 1091) (z := i) rfl rfl ?_)
    refine wl_of hX hb cL_1091 (rw_iconst (pc' := 1092) rfl ?_)
    refine wl_of hX hb cL_1092 (rw_iadd (pc' := 1093) rfl ?_)
    have k4163 : H4148 0 ((i + 2).toNat) = H 0 ((i + 2).toNat) := (f4153 0 ((i + 2).toNat) _ g0 (wmem_s rfl))
    refine wl_of hX hb cL_1093 (xa_I (so := 0) (pc' := 1094) (a := 0) w4152 g0 (wsh_s _) (by omega) (wty_s _ _) (by omega) (by omega) rfl (fun b4161 b4162 => ?_))
    refine wl_of hX hb cL_1094 (rw_if_eq (p1 := 1101) (p2 := 1097) (by decide) rfl ⟨by omega, by omega⟩ (fun c4164 => ?_) (fun c4164 => ?_))
    · refine wl_of hX hb cL_1101 (rw_iconst (pc' := 1102) rfl ?_)
      have k4165 : wKI H4148 m = wKI H m := (wKI_fr hW gm f4153 rfl)
      have k4166 : H4148 x 9 = H x 9 := (f4153 x 9 _ gx rfl)
      have k4167 : H4148 m 6 = H m 6 := (f4153 m 6 _ gm rfl)
      have k4168 : H4148 x 11 = H x 11 := (f4153 x 11 _ gx rfl)
      have k4169 : H4148 m 13 = H m 13 := (f4153 m 13 _ gm rfl)
      have k4170 : H4148 x 8 = H x 8 := (f4153 x 8 _ gx rfl)
      have k4171 : H4148 m 3 = H m 3 := (f4153 m 3 _ gm rfl)
      rw [show H4148 0 ((i + 1).toNat) = H 0 ((i + 1).toNat) by omega]
      have h4172 : RB T H4148 m e8 d8 := (RB_fr hW gm f4153 rfl hrb8)
      have h4173 : KNN T H4148 m e8 d8 := (KNN_fr hW gm f4153 rfl hknn8)
      refine wl_of hX hb cL_1102 (xc_V (pc' := 1105) (r := m) (as := [vI (H 0 ((i + 1).toNat)), vI 0]) (st := []) (lm_11_142) rfl rfl (Nat.le_of_ble_eq_true rfl) w4152 gm sh_42 (by decide) rfl (by decide) (u_263 (e := e8) (d := d8) w4152 gm ⟨by omega, by omega⟩ ⟨by decide, by decide⟩ (by omega) (by assumption) (by assumption) (by assumption) (by assumption) h4172 h4173) (fun R4174 T4175 H4176 p4177 => ?_))
      obtain ⟨e4178, w4180, f4181, z4182, e4179, b4183, p4184⟩ := p4177
      subst e4178
      subst e4179
      obtain ⟨a4185, a4186⟩ := p4184
      show WL _ _ _ _ 1105 [(4, vI i), (3, .ref o), (2, .ref m), (1, .ref x), (0, .ref 0)] [vI z4182] _ H4176
      refine wl_of hX hb cL_1105 (rw_pop (pc' := 1106) rfl rfl ?_)
      refine wl_of hX hb cL_1106 (rw_goto (p1 := 1653) (by decide) ?_)
      have k4187 : H4176 x 9 = H4148 x 9 := (f4181 x 9 _ gx rfl)
      have k4188 : H4176 m 6 = H4148 m 6 := (f4181 m 6 _ gm rfl)
      have k4189 : H4176 x 11 = H4148 x 11 := (f4181 x 11 _ gx rfl)
      have k4190 : H4176 m 13 = H4148 m 13 := (f4181 m 13 _ gm rfl)
      have k4191 : H4176 x 8 = H4148 x 8 := (f4181 x 8 _ gx rfl)
      have k4192 : H4176 m 3 = H4148 m 3 := (f4181 m 3 _ gm rfl)
      have k4193 : H4176 x 0 = H x 0 := ((f4181 x 0 _ gx rfl).trans (f4153 x 0 _ gx rfl))
      have q4194 : H4176 x 0 = (tc : Int) := k4193.trans e0
      have k4195 : H4176 m 5 = H m 5 := ((f4181 m 5 _ gm rfl).trans (f4153 m 5 _ gm rfl))
      have q4196 : H4176 m 5 = (tm : Int) := k4195.trans em
      have k4197 : H4176 x 6 = H x 6 := ((f4181 x 6 _ gx rfl).trans (f4153 x 6 _ gx rfl))
      have q4198 : H4176 x 6 = (cu : Int) := k4197.trans ecu
      have k4199 : H4176 x 7 = H x 7 := ((f4181 x 7 _ gx rfl).trans (f4153 x 7 _ gx rfl))
      have q4200 : H4176 x 7 = (dr : Int) := k4199.trans edr
      have h4201 : CEN T H4176 ce8 e8 d8 := (CEN_fr w4152 gce8 f4181 rfl p4156)
      have h4202 : TP T H4176 tc B := (TP_fr w4152 gtc f4181 rfl (TP_fr hW gtc f4153 rfl htc))
      have h4203 : TM T H4176 tm B := (TM_fr w4152 gtm f4181 rfl (TM_fr hW gtm f4153 rfl htm))
      have h4204 : DD T H4176 cu  := (DD_fr w4152 gcu f4181 rfl (DD_fr hW gcu f4153 rfl hcu))
      have h4205 : DD T H4176 dr  := (DD_fr w4152 gdr f4181 rfl (DD_fr hW gdr f4153 rfl hdr))
      have h4206 : DE T H4176 cu  := (DE_fr w4152 gcu f4181 rfl (DE_fr hW gcu f4153 rfl hdec))
      have h4207 : DE T H4176 dr  := (DE_fr w4152 gdr f4181 rfl (DE_fr hW gdr f4153 rfl hded))
      have h4208 : SP T H4176 x C8 := (SP_fr w4152 gx f4181 rfl (SP_fr hW gx f4153 rfl hsp))
      have h4209 : CU T H4176 cu e8 d8 n8 := (CU_fr w4152 gcu f4181 rfl (CU_fr hW gcu f4153 rfl hcu8))
      have h4210 : CY T H4176 cu (d8 0 3) g8 (H cu 17) := (CY_fr w4152 gcu f4181 rfl (CY_fr hW gcu f4153 rfl h4141))
      have k4211 : H4176 x 3 = H x 3 := ((f4181 x 3 _ gx rfl).trans (f4153 x 3 _ gx rfl))
      have q4212 : H4176 x 3 = (ce8 : Int) := k4211.trans ece8
      have h4213 : HDR T H4176 ce8  := (HDR_fr w4152 gce8 f4181 rfl (HDR_fr hW gce8 f4153 rfl hhdr8))
      have h4214 : RY T H4176 m (d8 0 3) g8 (H m 32) := (RY_fr w4152 gm f4181 rfl (RY_fr hW gm f4153 rfl h4142))
      have h4215 : RB T H4176 m e8 d8 := (RB_fr w4152 gm f4181 rfl h4172)
      exact WL.loc hX (by simp) (next T H4176 ⟨⟨w4180, g0, gx, gm, go, by omega, by omega⟩, ⟨_, tc, tm, cu, dr, _, _, _, _, _, ce8, q4194, gtc, h4202, q4196, gtm, h4203, q4198, gcu, q4200, gdr, h4204, h4205, h4206, h4207, h4208, hC1, hC2, h4209, h4215, (h4210).1, (h4214).1, hE, hZ, (by omega), (by assumption), (by omega), (by first | assumption | exact SG_0), q4212, gce8, h4201, h4213, a4186, gm⟩, by omega, by omega⟩ (by omega) (by omega))
    · refine wl_of hX hb cL_1097 (rw_iconst (pc' := 1098) rfl ?_)
      refine wl_of hX hb cL_1098 (rw_goto (p1 := 1102) (by decide) ?_)
      have k4216 : wKI H4148 m = wKI H m := (wKI_fr hW gm f4153 rfl)
      have k4217 : H4148 x 9 = H x 9 := (f4153 x 9 _ gx rfl)
      have k4218 : H4148 m 6 = H m 6 := (f4153 m 6 _ gm rfl)
      have k4219 : H4148 x 11 = H x 11 := (f4153 x 11 _ gx rfl)
      have k4220 : H4148 m 13 = H m 13 := (f4153 m 13 _ gm rfl)
      have k4221 : H4148 x 8 = H x 8 := (f4153 x 8 _ gx rfl)
      have k4222 : H4148 m 3 = H m 3 := (f4153 m 3 _ gm rfl)
      rw [show H4148 0 ((i + 1).toNat) = H 0 ((i + 1).toNat) by omega]
      have h4223 : RB T H4148 m e8 d8 := (RB_fr hW gm f4153 rfl hrb8)
      have h4224 : KNN T H4148 m e8 d8 := (KNN_fr hW gm f4153 rfl hknn8)
      refine wl_of hX hb cL_1102 (xc_V (pc' := 1105) (r := m) (as := [vI (H 0 ((i + 1).toNat)), vI 1]) (st := []) (lm_11_142) rfl rfl (Nat.le_of_ble_eq_true rfl) w4152 gm sh_42 (by decide) rfl (by decide) (u_263 (e := e8) (d := d8) w4152 gm ⟨by omega, by omega⟩ ⟨by decide, by decide⟩ (by omega) (by assumption) (by assumption) (by assumption) (by assumption) h4223 h4224) (fun R4225 T4226 H4227 p4228 => ?_))
      obtain ⟨e4229, w4231, f4232, z4233, e4230, b4234, p4235⟩ := p4228
      subst e4229
      subst e4230
      obtain ⟨a4236, a4237⟩ := p4235
      show WL _ _ _ _ 1105 [(4, vI i), (3, .ref o), (2, .ref m), (1, .ref x), (0, .ref 0)] [vI z4233] _ H4227
      refine wl_of hX hb cL_1105 (rw_pop (pc' := 1106) rfl rfl ?_)
      refine wl_of hX hb cL_1106 (rw_goto (p1 := 1653) (by decide) ?_)
      have k4238 : H4227 x 9 = H4148 x 9 := (f4232 x 9 _ gx rfl)
      have k4239 : H4227 m 6 = H4148 m 6 := (f4232 m 6 _ gm rfl)
      have k4240 : H4227 x 11 = H4148 x 11 := (f4232 x 11 _ gx rfl)
      have k4241 : H4227 m 13 = H4148 m 13 := (f4232 m 13 _ gm rfl)
      have k4242 : H4227 x 8 = H4148 x 8 := (f4232 x 8 _ gx rfl)
      have k4243 : H4227 m 3 = H4148 m 3 := (f4232 m 3 _ gm rfl)
      have k4244 : H4227 x 0 = H x 0 := ((f4232 x 0 _ gx rfl).trans (f4153 x 0 _ gx rfl))
      have q4245 : H4227 x 0 = (tc : Int) := k4244.trans e0
      have k4246 : H4227 m 5 = H m 5 := ((f4232 m 5 _ gm rfl).trans (f4153 m 5 _ gm rfl))
      have q4247 : H4227 m 5 = (tm : Int) := k4246.trans em
      have k4248 : H4227 x 6 = H x 6 := ((f4232 x 6 _ gx rfl).trans (f4153 x 6 _ gx rfl))
      have q4249 : H4227 x 6 = (cu : Int) := k4248.trans ecu
      have k4250 : H4227 x 7 = H x 7 := ((f4232 x 7 _ gx rfl).trans (f4153 x 7 _ gx rfl))
      have q4251 : H4227 x 7 = (dr : Int) := k4250.trans edr
      have h4252 : CEN T H4227 ce8 e8 d8 := (CEN_fr w4152 gce8 f4232 rfl p4156)
      have h4253 : TP T H4227 tc B := (TP_fr w4152 gtc f4232 rfl (TP_fr hW gtc f4153 rfl htc))
      have h4254 : TM T H4227 tm B := (TM_fr w4152 gtm f4232 rfl (TM_fr hW gtm f4153 rfl htm))
      have h4255 : DD T H4227 cu  := (DD_fr w4152 gcu f4232 rfl (DD_fr hW gcu f4153 rfl hcu))
      have h4256 : DD T H4227 dr  := (DD_fr w4152 gdr f4232 rfl (DD_fr hW gdr f4153 rfl hdr))
      have h4257 : DE T H4227 cu  := (DE_fr w4152 gcu f4232 rfl (DE_fr hW gcu f4153 rfl hdec))
      have h4258 : DE T H4227 dr  := (DE_fr w4152 gdr f4232 rfl (DE_fr hW gdr f4153 rfl hded))
      have h4259 : SP T H4227 x C8 := (SP_fr w4152 gx f4232 rfl (SP_fr hW gx f4153 rfl hsp))
      have h4260 : CU T H4227 cu e8 d8 n8 := (CU_fr w4152 gcu f4232 rfl (CU_fr hW gcu f4153 rfl hcu8))
      have h4261 : CY T H4227 cu (d8 0 3) g8 (H cu 17) := (CY_fr w4152 gcu f4232 rfl (CY_fr hW gcu f4153 rfl h4141))
      have k4262 : H4227 x 3 = H x 3 := ((f4232 x 3 _ gx rfl).trans (f4153 x 3 _ gx rfl))
      have q4263 : H4227 x 3 = (ce8 : Int) := k4262.trans ece8
      have h4264 : HDR T H4227 ce8  := (HDR_fr w4152 gce8 f4232 rfl (HDR_fr hW gce8 f4153 rfl hhdr8))
      have h4265 : RY T H4227 m (d8 0 3) g8 (H m 32) := (RY_fr w4152 gm f4232 rfl (RY_fr hW gm f4153 rfl h4142))
      have h4266 : RB T H4227 m e8 d8 := (RB_fr w4152 gm f4232 rfl h4223)
      exact WL.loc hX (by simp) (next T H4227 ⟨⟨w4231, g0, gx, gm, go, by omega, by omega⟩, ⟨_, tc, tm, cu, dr, _, _, _, _, _, ce8, q4245, gtc, h4253, q4247, gtm, h4254, q4249, gcu, q4251, gdr, h4255, h4256, h4257, h4258, h4259, hC1, hC2, h4260, h4266, (h4261).1, (h4265).1, hE, hZ, (by omega), (by assumption), (by omega), (by first | assumption | exact SG_0), q4263, gce8, h4252, h4264, a4237, gm⟩, by omega, by omega⟩ (by omega) (by omega))
