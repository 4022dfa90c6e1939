/-! THE LAW, GONE ON WITH (own work) -/
set_option maxHeartbeats 4000000 in
theorem wl_c22 {kt : Nat → Option mc_E} {CB SB : Nat} {X : mc_S → Prop} {T : wq_T} {H : wq_H} {Len x m o : Nat} {i : Int} (hX : wlX kt CB SB X) (hb : T.2.1 ≤ CB ∧ T.2.2.1 ≤ SB) (hI : wlJ Len x m o T H) (hL : Len ≤ 3072) (hi : 0 ≤ i ∧ i + 6 ≤ Len) (hb2 : T.2.1 + 20 ≤ CB ∧ T.2.2.1 + 500 ≤ SB)  (next : ∀ T' H', wlJ Len x m o T' H' → T'.2.1 ≤ T.2.1 + 20 → T'.2.2.1 ≤ T.2.2.1 + 500 → WL kt CB SB X 1653 (wlL i x m o) [] T' H') : WL kt CB SB X 882 (wlL i x m o) [] T H := by
  obtain ⟨⟨hW, g0, gx, gm, go, hK, hr⟩, hXI, hY1, hY2⟩ := hI
  refine wl_of hX hb cL_882 (rw_aload_n (pc' := 883) (v := .ref x) rfl rfl rfl ?_)
  refine wl_of hX hb cL_883 (rw_aload_n (pc' := 884) (v := .ref 0) rfl rfl rfl ?_)
  refine wl_of hX hb cL_884 (rw_iload (pc' := 886) (z := i) rfl rfl ?_)
  refine wl_of hX hb cL_886 (rw_iconst (pc' := 887) rfl ?_)
  refine wl_of hX hb cL_887 (rw_iadd (pc' := 888) rfl ?_)
  refine wl_of hX hb cL_888 (xa_I (so := 0) (pc' := 889) (a := 0) hW g0 (wsh_s _) (by omega) (wty_s _ _) (by omega) (by omega) rfl (fun b3601 b3602 => ?_))
  refine wl_of hX hb cL_889 (rw_aload_n (pc' := 890) (v := .ref 0) rfl rfl rfl ?_)
  refine wl_of hX hb cL_890 (rw_iload (pc' := 892) (z := i) rfl rfl ?_)
  refine wl_of hX hb cL_892 (rw_iconst (pc' := 893) rfl ?_)
  refine wl_of hX hb cL_893 (rw_iadd (pc' := 894) rfl ?_)
  refine wl_of hX hb cL_894 (xa_I (so := 0) (pc' := 895) (a := 0) hW g0 (wsh_s _) (by omega) (wty_s _ _) (by omega) (by omega) rfl (fun b3603 b3604 => ?_))
  obtain ⟨B, tc, tm, cu, dr, C8, e8, d8, n8, g8, ce8, e0, gtc, htc, em, gtm, htm, ecu, gcu, edr, gdr, hcu, hdr, hdec, hded, hsp, hC1, hC2, hcu8, hrb8, hcg8, hmn8, hE, hZ, hn8, hXA, hV8, hSG, ece8, gce8, hcen8, hhdr8, hknn8, -⟩ := hXI
  have hN3 := RB_n3 hrb8
  have hE13 : ∀ h : Nat, h < 24 → 0 ≤ e8 13 h ∧ e8 13 h ≤ 100 := fun k hk => by
    obtain ⟨s, h1, h2, h3⟩ := hcu8.1.2.2.1
    exact ⟨(h3 k hk).1, (h3 k hk).2.1⟩
  have hXW := hXA.1
  have hXN := hXA.2
  have hE0 : e8 0 3 = d8 0 3 ∧ e8 0 0 = d8 0 0 := by
    have h := hE 0 (by decide)
    exact ⟨congrFun h 3, congrFun h 0⟩
  have u3605 := CU_k hcu8
  have h3606 : CY T H cu (d8 0 3) g8 (H cu 17) := ⟨hcg8, rfl⟩
  have h3607 : RY T H m (d8 0 3) g8 (H m 32) := ⟨hmn8, rfl⟩
  obtain ⟨t9, ht9⟩ : ∃ t : Int, t = H x 9 := ⟨_, rfl⟩
  obtain ⟨y9, hy9⟩ : ∃ y : Int, y = H 0 ((i + 2).toNat) := ⟨_, rfl⟩
  obtain ⟨r3608, q3609, g3610⟩ := hW.ref gx (t' := 6) (n := 13) (j := 2) (p := 0) (q := 0) rfl (by decide) rfl
  refine wl_of hX hb cL_895 (xc_V (pc' := 898) (r := x) (as := [vI (H 0 ((i + 1).toNat)), vI (H 0 ((i + 2).toNat))]) (st := []) (lm_11_114) rfl rfl (Nat.le_of_ble_eq_true rfl) hW gx sh_1 (by decide) rfl (by decide) (u_105 (e := e8) (d := d8) (n := n8) hW gx ⟨by omega, by omega⟩ ⟨by omega, by omega⟩ ecu gcu q3609 g3610 ece8 gce8 (by assumption) (by assumption) (by omega) (by omega) (by omega) (by omega) hcu8 hcen8 hhdr8) (fun R3611 T3612 H3613 p3614 => ?_))
  obtain ⟨e3615, w3617, f3618, z3619, e3616, b3620, p3621⟩ := p3614
  subst e3615
  subst e3616
  rcases p3621 with ⟨a3622, a3623, a3624⟩ | ⟨a3625, a3626, a3627⟩
  · show WL _ _ _ _ 898 [(4, vI i), (3, .ref o), (2, .ref m), (1, .ref x), (0, .ref 0)] [vI z3619] _ H3613
    refine wl_of hX hb cL_898 (rw_aload_n (pc' := 899) (v := .ref m) rfl rfl rfl ?_)
    refine wl_of hX hb cL_899 (rw_aload_n (pc' := 900) (v := .ref 0) rfl rfl rfl ?_)
    refine wl_of hX hb cL_900 (rw_iload (pc' := 902) (z := i) rfl rfl ?_)
    refine wl_of hX hb cL_902 (rw_iconst (pc' := 903) rfl ?_)
    refine wl_of hX hb cL_903 (rw_iadd (pc' := 904) rfl ?_)
    have k3630 : H3613 0 ((i + 1).toNat) = H 0 ((i + 1).toNat) := (f3618 0 ((i + 1).toNat) _ g0 (wmem_s rfl))
    refine wl_of hX hb cL_904 (xa_I (so := 0) (pc' := 905) (a := 0) w3617 g0 (wsh_s _) (by omega) (wty_s _ _) (by omega) (by omega) rfl (fun b3628 b3629 => ?_))
    refine wl_of hX hb cL_905 (rw_aload_n (pc' := 906) (v := .ref 0) rfl rfl rfl ?_)
    refine wl_of hX hb cL_906 (rw_iload (pc' := 908) (z := i) rfl rfl ?_)
    refine wl_of hX hb cL_908 (rw_iconst (pc' := 909) rfl ?_)
    refine wl_of hX hb cL_909 (rw_iadd (pc' := 910) rfl ?_)
    have k3633 : H3613 0 ((i + 2).toNat) = H 0 ((i + 2).toNat) := (f3618 0 ((i + 2).toNat) _ g0 (wmem_s rfl))
    refine wl_of hX hb cL_910 (xa_I (so := 0) (pc' := 911) (a := 0) w3617 g0 (wsh_s _) (by omega) (wty_s _ _) (by omega) (by omega) rfl (fun b3631 b3632 => ?_))
    have k3634 : wKI H3613 m = wKI H m := (wKI_fr hW gm f3618 rfl)
    have k3635 : H3613 x 9 = H x 9 := (f3618 x 9 _ gx rfl)
    have k3636 : H3613 m 6 = H m 6 := (f3618 m 6 _ gm rfl)
    have k3637 : H3613 x 11 = H x 11 := (f3618 x 11 _ gx rfl)
    have k3638 : H3613 m 13 = H m 13 := (f3618 m 13 _ gm rfl)
    have k3639 : H3613 x 8 = H x 8 := (f3618 x 8 _ gx rfl)
    have k3640 : H3613 m 3 = H m 3 := (f3618 m 3 _ gm rfl)
    rw [show H3613 0 ((i + 2).toNat) = H 0 ((i + 2).toNat) by omega]
    rw [show H3613 0 ((i + 1).toNat) = H 0 ((i + 1).toNat) by omega]
    have h3641 : RB T H3613 m e8 d8 := (RB_fr hW gm f3618 rfl hrb8)
    have h3642 : KNN T H3613 m e8 d8 := (KNN_fr hW gm f3618 rfl hknn8)
    refine wl_of hX hb cL_911 (xc_V (pc' := 914) (r := m) (as := [vI (H 0 ((i + 1).toNat)), vI (H 0 ((i + 2).toNat))]) (st := [vI z3619]) (lm_11_117) rfl rfl (Nat.le_of_ble_eq_true rfl) w3617 gm sh_42 (by decide) rfl (by decide) (u_255 (e := e8) (d := d8) w3617 gm ⟨by omega, by omega⟩ ⟨by omega, by omega⟩ (by omega) (by assumption) (by assumption) (by assumption) (by assumption) h3641 h3642) (fun R3643 T3644 H3645 p3646 => ?_))
    obtain ⟨e3647, w3649, f3650, z3651, e3648, b3652, p3653⟩ := p3646
    subst e3647
    subst e3648
    rcases p3653 with ⟨a3654, a3655, a3656, a3657⟩ | ⟨a3658, a3659, a3660, a3661⟩
    · show WL _ _ _ _ 914 [(4, vI i), (3, .ref o), (2, .ref m), (1, .ref x), (0, .ref 0)] [vI z3651, vI z3619] _ H3645
      refine wl_of hX hb cL_914 (rw_icmp_eq (p1 := 1653) (p2 := 917) (by decide) rfl ⟨b3620.1, b3620.2⟩ ⟨b3652.1, b3652.2⟩ (fun c3662 => ?_) (fun c3662 => ?_))
      · have k3663 : H3645 x 9 = H3613 x 9 := (f3650 x 9 _ gx rfl)
        have k3664 : H3645 m 6 = H3613 m 6 := (f3650 m 6 _ gm rfl)
        have k3665 : H3645 x 11 = H3613 x 11 := (f3650 x 11 _ gx rfl)
        have k3666 : H3645 m 13 = H3613 m 13 := (f3650 m 13 _ gm rfl)
        have k3667 : H3645 x 8 = H3613 x 8 := (f3650 x 8 _ gx rfl)
        have k3668 : H3645 m 3 = H3613 m 3 := (f3650 m 3 _ gm rfl)
        have k3669 : H3645 x 0 = H x 0 := ((f3650 x 0 _ gx rfl).trans (f3618 x 0 _ gx rfl))
        have q3670 : H3645 x 0 = (tc : Int) := k3669.trans e0
        have k3671 : H3645 m 5 = H m 5 := ((f3650 m 5 _ gm rfl).trans (f3618 m 5 _ gm rfl))
        have q3672 : H3645 m 5 = (tm : Int) := k3671.trans em
        have k3673 : H3645 x 6 = H x 6 := ((f3650 x 6 _ gx rfl).trans (f3618 x 6 _ gx rfl))
        have q3674 : H3645 x 6 = (cu : Int) := k3673.trans ecu
        have k3675 : H3645 x 7 = H x 7 := ((f3650 x 7 _ gx rfl).trans (f3618 x 7 _ gx rfl))
        have q3676 : H3645 x 7 = (dr : Int) := k3675.trans edr
        have h3677 : CEN T H3645 ce8 e8 d8 := (CEN_fr w3617 gce8 f3650 rfl a3624)
        have h3678 : TP T H3645 tc B := (TP_fr w3617 gtc f3650 rfl (TP_fr hW gtc f3618 rfl htc))
        have h3679 : TM T H3645 tm B := (TM_fr w3617 gtm f3650 rfl (TM_fr hW gtm f3618 rfl htm))
        have h3680 : DD T H3645 cu  := (DD_fr w3617 gcu f3650 rfl (DD_fr hW gcu f3618 rfl hcu))
        have h3681 : DD T H3645 dr  := (DD_fr w3617 gdr f3650 rfl (DD_fr hW gdr f3618 rfl hdr))
        have h3682 : DE T H3645 cu  := (DE_fr w3617 gcu f3650 rfl (DE_fr hW gcu f3618 rfl hdec))
        have h3683 : DE T H3645 dr  := (DE_fr w3617 gdr f3650 rfl (DE_fr hW gdr f3618 rfl hded))
        have h3684 : SP T H3645 x C8 := (SP_fr w3617 gx f3650 rfl (SP_fr hW gx f3618 rfl hsp))
        have h3685 : CU T H3645 cu e8 d8 n8 := (CU_fr w3617 gcu f3650 rfl (CU_fr hW gcu f3618 rfl hcu8))
        have h3686 : CY T H3645 cu (d8 0 3) g8 (H cu 17) := (CY_fr w3617 gcu f3650 rfl (CY_fr hW gcu f3618 rfl h3606))
        have k3687 : H3645 x 3 = H x 3 := ((f3650 x 3 _ gx rfl).trans (f3618 x 3 _ gx rfl))
        have q3688 : H3645 x 3 = (ce8 : Int) := k3687.trans ece8
        have h3689 : HDR T H3645 ce8  := (HDR_fr w3617 gce8 f3650 rfl (HDR_fr hW gce8 f3618 rfl hhdr8))
        have h3690 : RY T H3645 m (d8 0 3) g8 (H m 32) := (RY_fr w3617 gm f3650 rfl (RY_fr hW gm f3618 rfl h3607))
        have h3691 : RB T H3645 m e8 d8 := (RB_fr w3617 gm f3650 rfl h3641)
        exact WL.loc hX (by simp) (next T H3645 ⟨⟨w3649, g0, gx, gm, go, by omega, by omega⟩, ⟨_, tc, tm, cu, dr, _, _, _, _, _, ce8, q3670, gtc, h3678, q3672, gtm, h3679, q3674, gcu, q3676, gdr, h3680, h3681, h3682, h3683, h3684, hC1, hC2, h3685, h3691, (h3686).1, (h3690).1, hE, hZ, (by omega), (by assumption), (by omega), (by first | assumption | exact SG_0), q3688, gce8, h3677, h3689, a3657, gm⟩, by omega, by omega⟩ (by omega) (by omega))
      · exfalso
        omega
    · show WL _ _ _ _ 914 [(4, vI i), (3, .ref o), (2, .ref m), (1, .ref x), (0, .ref 0)] [vI z3651, vI z3619] _ H3645
      refine wl_of hX hb cL_914 (rw_icmp_eq (p1 := 1653) (p2 := 917) (by decide) rfl ⟨b3620.1, b3620.2⟩ ⟨b3652.1, b3652.2⟩ (fun c3692 => ?_) (fun c3692 => ?_))
      · have k3693 : H3645 x 9 = H3613 x 9 := (f3650 x 9 _ gx rfl)
        have k3694 : H3645 m 6 = H3613 m 6 := (f3650 m 6 _ gm rfl)
        have k3695 : H3645 x 11 = H3613 x 11 := (f3650 x 11 _ gx rfl)
        have k3696 : H3645 m 13 = H3613 m 13 := (f3650 m 13 _ gm rfl)
        have k3697 : H3645 x 8 = H3613 x 8 := (f3650 x 8 _ gx rfl)
        have k3698 : H3645 m 3 = H3613 m 3 := (f3650 m 3 _ gm rfl)
        have k3699 : H3645 x 0 = H x 0 := ((f3650 x 0 _ gx rfl).trans (f3618 x 0 _ gx rfl))
        have q3700 : H3645 x 0 = (tc : Int) := k3699.trans e0
        have k3701 : H3645 m 5 = H m 5 := ((f3650 m 5 _ gm rfl).trans (f3618 m 5 _ gm rfl))
        have q3702 : H3645 m 5 = (tm : Int) := k3701.trans em
        have k3703 : H3645 x 6 = H x 6 := ((f3650 x 6 _ gx rfl).trans (f3618 x 6 _ gx rfl))
        have q3704 : H3645 x 6 = (cu : Int) := k3703.trans ecu
        have k3705 : H3645 x 7 = H x 7 := ((f3650 x 7 _ gx rfl).trans (f3618 x 7 _ gx rfl))
        have q3706 : H3645 x 7 = (dr : Int) := k3705.trans edr
        have h3707 : CEN T H3645 ce8 e8 d8 := (CEN_fr w3617 gce8 f3650 rfl a3624)
        have h3708 : TP T H3645 tc B := (TP_fr w3617 gtc f3650 rfl (TP_fr hW gtc f3618 rfl htc))
        have h3709 : TM T H3645 tm B := (TM_fr w3617 gtm f3650 rfl (TM_fr hW gtm f3618 rfl htm))
        have h3710 : DD T H3645 cu  := (DD_fr w3617 gcu f3650 rfl (DD_fr hW gcu f3618 rfl hcu))
        have h3711 : DD T H3645 dr  := (DD_fr w3617 gdr f3650 rfl (DD_fr hW gdr f3618 rfl hdr))
        have h3712 : DE T H3645 cu  := (DE_fr w3617 gcu f3650 rfl (DE_fr hW gcu f3618 rfl hdec))
        have h3713 : DE T H3645 dr  := (DE_fr w3617 gdr f3650 rfl (DE_fr hW gdr f3618 rfl hded))
        have h3714 : SP T H3645 x C8 := (SP_fr w3617 gx f3650 rfl (SP_fr hW gx f3618 rfl hsp))
        have h3715 : CU T H3645 cu e8 d8 n8 := (CU_fr w3617 gcu f3650 rfl (CU_fr hW gcu f3618 rfl hcu8))
        have h3716 : CY T H3645 cu (d8 0 3) g8 (H cu 17) := (CY_fr w3617 gcu f3650 rfl (CY_fr hW gcu f3618 rfl h3606))
        have k3717 : H3645 x 3 = H x 3 := ((f3650 x 3 _ gx rfl).trans (f3618 x 3 _ gx rfl))
        have q3718 : H3645 x 3 = (ce8 : Int) := k3717.trans ece8
        have h3719 : HDR T H3645 ce8  := (HDR_fr w3617 gce8 f3650 rfl (HDR_fr hW gce8 f3618 rfl hhdr8))
        have h3720 : RY T H3645 m (d8 0 3) g8 (H m 32) := (RY_fr w3617 gm f3650 rfl (RY_fr hW gm f3618 rfl h3607))
        have h3721 : RB T H3645 m e8 d8 := (RB_fr w3617 gm f3650 rfl h3641)
        exact WL.loc hX (by simp) (next T H3645 ⟨⟨w3649, g0, gx, gm, go, by omega, by omega⟩, ⟨_, tc, tm, cu, dr, _, _, _, _, _, ce8, q3700, gtc, h3708, q3702, gtm, h3709, q3704, gcu, q3706, gdr, h3710, h3711, h3712, h3713, h3714, hC1, hC2, h3715, h3721, (h3716).1, (h3720).1, hE, hZ, (by omega), (by assumption), (by omega), (by first | assumption | exact SG_0), q3718, gce8, h3707, h3719, a3661, gm⟩, by omega, by omega⟩ (by omega) (by omega))
      · refine wl_of hX hb cL_917 (rw_iconst (pc' := 918) rfl ?_)
        exfalso
        omega
  · show WL _ _ _ _ 898 [(4, vI i), (3, .ref o), (2, .ref m), (1, .ref x), (0, .ref 0)] [vI z3619] _ H3613
    refine wl_of hX hb cL_898 (rw_aload_n (pc' := 899) (v := .ref m) rfl rfl rfl ?_)
    refine wl_of hX hb cL_899 (rw_aload_n (pc' := 900) (v := .ref 0) rfl rfl rfl ?_)
    refine wl_of hX hb cL_900 (rw_iload (pc' := 902) (z := i) rfl rfl ?_)
    refine wl_of hX hb cL_902 (rw_iconst (pc' := 903) rfl ?_)
    refine wl_of hX hb cL_903 (rw_iadd (pc' := 904) rfl ?_)
    have k3724 : H3613 0 ((i + 1).toNat) = H 0 ((i + 1).toNat) := (f3618 0 ((i + 1).toNat) _ g0 (wmem_s rfl))
    refine wl_of hX hb cL_904 (xa_I (so := 0) (pc' := 905) (a := 0) w3617 g0 (wsh_s _) (by omega) (wty_s _ _) (by omega) (by omega) rfl (fun b3722 b3723 => ?_))
    refine wl_of hX hb cL_905 (rw_aload_n (pc' := 906) (v := .ref 0) rfl rfl rfl ?_)
    refine wl_of hX hb cL_906 (rw_iload (pc' := 908) (z := i) rfl rfl ?_)
    refine wl_of hX hb cL_908 (rw_iconst (pc' := 909) rfl ?_)
    refine wl_of hX hb cL_909 (rw_iadd (pc' := 910) rfl ?_)
    have k3727 : H3613 0 ((i + 2).toNat) = H 0 ((i + 2).toNat) := (f3618 0 ((i + 2).toNat) _ g0 (wmem_s rfl))
    refine wl_of hX hb cL_910 (xa_I (so := 0) (pc' := 911) (a := 0) w3617 g0 (wsh_s _) (by omega) (wty_s _ _) (by omega) (by omega) rfl (fun b3725 b3726 => ?_))
    have k3728 : wKI H3613 m = wKI H m := (wKI_fr hW gm f3618 rfl)
    have k3729 : H3613 x 9 = H x 9 := (f3618 x 9 _ gx rfl)
    have k3730 : H3613 m 6 = H m 6 := (f3618 m 6 _ gm rfl)
    have k3731 : H3613 x 11 = H x 11 := (f3618 x 11 _ gx rfl)
    have k3732 : H3613 m 13 = H m 13 := (f3618 m 13 _ gm rfl)
    have k3733 : H3613 x 8 = H x 8 := (f3618 x 8 _ gx rfl)
    have k3734 : H3613 m 3 = H m 3 := (f3618 m 3 _ gm rfl)
    rw [show H3613 0 ((i + 2).toNat) = H 0 ((i + 2).toNat) by omega]
    rw [show H3613 0 ((i + 1).toNat) = H 0 ((i + 1).toNat) by omega]
    have h3735 : RB T H3613 m e8 d8 := (RB_fr hW gm f3618 rfl hrb8)
    have h3736 : KNN T H3613 m e8 d8 := (KNN_fr hW gm f3618 rfl hknn8)
    refine wl_of hX hb cL_911 (xc_V (pc' := 914) (r := m) (as := [vI (H 0 ((i + 1).toNat)), vI (H 0 ((i + 2).toNat))]) (st := [vI z3619]) (lm_11_117) rfl rfl (Nat.le_of_ble_eq_true rfl) w3617 gm sh_42 (by decide) rfl (by decide) (u_255 (e := e8) (d := d8) w3617 gm ⟨by omega, by omega⟩ ⟨by omega, by omega⟩ (by omega) (by assumption) (by assumption) (by assumption) (by assumption) h3735 h3736) (fun R3737 T3738 H3739 p3740 => ?_))
    obtain ⟨e3741, w3743, f3744, z3745, e3742, b3746, p3747⟩ := p3740
    subst e3741
    subst e3742
    rcases p3747 with ⟨a3748, a3749, a3750, a3751⟩ | ⟨a3752, a3753, a3754, a3755⟩
    · show WL _ _ _ _ 914 [(4, vI i), (3, .ref o), (2, .ref m), (1, .ref x), (0, .ref 0)] [vI z3745, vI z3619] _ H3739
      refine wl_of hX hb cL_914 (rw_icmp_eq (p1 := 1653) (p2 := 917) (by decide) rfl ⟨b3620.1, b3620.2⟩ ⟨b3746.1, b3746.2⟩ (fun c3756 => ?_) (fun c3756 => ?_))
      · have k3757 : H3739 x 9 = H3613 x 9 := (f3744 x 9 _ gx rfl)
        have k3758 : H3739 m 6 = H3613 m 6 := (f3744 m 6 _ gm rfl)
        have k3759 : H3739 x 11 = H3613 x 11 := (f3744 x 11 _ gx rfl)
        have k3760 : H3739 m 13 = H3613 m 13 := (f3744 m 13 _ gm rfl)
        have k3761 : H3739 x 8 = H3613 x 8 := (f3744 x 8 _ gx rfl)
        have k3762 : H3739 m 3 = H3613 m 3 := (f3744 m 3 _ gm rfl)
        have k3763 : H3739 x 0 = H x 0 := ((f3744 x 0 _ gx rfl).trans (f3618 x 0 _ gx rfl))
        have q3764 : H3739 x 0 = (tc : Int) := k3763.trans e0
        have k3765 : H3739 m 5 = H m 5 := ((f3744 m 5 _ gm rfl).trans (f3618 m 5 _ gm rfl))
        have q3766 : H3739 m 5 = (tm : Int) := k3765.trans em
        have k3767 : H3739 x 6 = H x 6 := ((f3744 x 6 _ gx rfl).trans (f3618 x 6 _ gx rfl))
        have q3768 : H3739 x 6 = (cu : Int) := k3767.trans ecu
        have k3769 : H3739 x 7 = H x 7 := ((f3744 x 7 _ gx rfl).trans (f3618 x 7 _ gx rfl))
        have q3770 : H3739 x 7 = (dr : Int) := k3769.trans edr
        have h3771 : CEN T H3739 ce8 e8 d8 := (CEN_fr w3617 gce8 f3744 rfl a3627)
        have h3772 : TP T H3739 tc B := (TP_fr w3617 gtc f3744 rfl (TP_fr hW gtc f3618 rfl htc))
        have h3773 : TM T H3739 tm B := (TM_fr w3617 gtm f3744 rfl (TM_fr hW gtm f3618 rfl htm))
        have h3774 : DD T H3739 cu  := (DD_fr w3617 gcu f3744 rfl (DD_fr hW gcu f3618 rfl hcu))
        have h3775 : DD T H3739 dr  := (DD_fr w3617 gdr f3744 rfl (DD_fr hW gdr f3618 rfl hdr))
        have h3776 : DE T H3739 cu  := (DE_fr w3617 gcu f3744 rfl (DE_fr hW gcu f3618 rfl hdec))
        have h3777 : DE T H3739 dr  := (DE_fr w3617 gdr f3744 rfl (DE_fr hW gdr f3618 rfl hded))
        have h3778 : SP T H3739 x C8 := (SP_fr w3617 gx f3744 rfl (SP_fr hW gx f3618 rfl hsp))
        have h3779 : CU T H3739 cu e8 d8 n8 := (CU_fr w3617 gcu f3744 rfl (CU_fr hW gcu f3618 rfl hcu8))
        have h3780 : CY T H3739 cu (d8 0 3) g8 (H cu 17) := (CY_fr w3617 gcu f3744 rfl (CY_fr hW gcu f3618 rfl h3606))
        have k3781 : H3739 x 3 = H x 3 := ((f3744 x 3 _ gx rfl).trans (f3618 x 3 _ gx rfl))
        have q3782 : H3739 x 3 = (ce8 : Int) := k3781.trans ece8
        have h3783 : HDR T H3739 ce8  := (HDR_fr w3617 gce8 f3744 rfl (HDR_fr hW gce8 f3618 rfl hhdr8))
        have h3784 : RY T H3739 m (d8 0 3) g8 (H m 32) := (RY_fr w3617 gm f3744 rfl (RY_fr hW gm f3618 rfl h3607))
        have h3785 : RB T H3739 m e8 d8 := (RB_fr w3617 gm f3744 rfl h3735)
        exact WL.loc hX (by simp) (next T H3739 ⟨⟨w3743, g0, gx, gm, go, by omega, by omega⟩, ⟨_, tc, tm, cu, dr, _, _, _, _, _, ce8, q3764, gtc, h3772, q3766, gtm, h3773, q3768, gcu, q3770, gdr, h3774, h3775, h3776, h3777, h3778, hC1, hC2, h3779, h3785, (h3780).1, (h3784).1, hE, hZ, (by omega), (by assumption), (by omega), (by first | assumption | exact SG_0), q3782, gce8, h3771, h3783, a3751, gm⟩, by omega, by omega⟩ (by omega) (by omega))
      · refine wl_of hX hb cL_917 (rw_iconst (pc' := 918) rfl ?_)
        exfalso
        omega
    · show WL _ _ _ _ 914 [(4, vI i), (3, .ref o), (2, .ref m), (1, .ref x), (0, .ref 0)] [vI z3745, vI z3619] _ H3739
      refine wl_of hX hb cL_914 (rw_icmp_eq (p1 := 1653) (p2 := 917) (by decide) rfl ⟨b3620.1, b3620.2⟩ ⟨b3746.1, b3746.2⟩ (fun c3786 => ?_) (fun c3786 => ?_))
      · have k3787 : H3739 x 9 = H3613 x 9 := (f3744 x 9 _ gx rfl)
        have k3788 : H3739 m 6 = H3613 m 6 := (f3744 m 6 _ gm rfl)
        have k3789 : H3739 x 11 = H3613 x 11 := (f3744 x 11 _ gx rfl)
        have k3790 : H3739 m 13 = H3613 m 13 := (f3744 m 13 _ gm rfl)
        have k3791 : H3739 x 8 = H3613 x 8 := (f3744 x 8 _ gx rfl)
        have k3792 : H3739 m 3 = H3613 m 3 := (f3744 m 3 _ gm rfl)
        have k3793 : H3739 x 0 = H x 0 := ((f3744 x 0 _ gx rfl).trans (f3618 x 0 _ gx rfl))
        have q3794 : H3739 x 0 = (tc : Int) := k3793.trans e0
        have k3795 : H3739 m 5 = H m 5 := ((f3744 m 5 _ gm rfl).trans (f3618 m 5 _ gm rfl))
        have q3796 : H3739 m 5 = (tm : Int) := k3795.trans em
        have k3797 : H3739 x 6 = H x 6 := ((f3744 x 6 _ gx rfl).trans (f3618 x 6 _ gx rfl))
        have q3798 : H3739 x 6 = (cu : Int) := k3797.trans ecu
        have k3799 : H3739 x 7 = H x 7 := ((f3744 x 7 _ gx rfl).trans (f3618 x 7 _ gx rfl))
        have q3800 : H3739 x 7 = (dr : Int) := k3799.trans edr
        have h3801 : CEN T H3739 ce8 e8 d8 := (CEN_fr w3617 gce8 f3744 rfl a3627)
        have h3802 : TP T H3739 tc B := (TP_fr w3617 gtc f3744 rfl (TP_fr hW gtc f3618 rfl htc))
        have h3803 : TM T H3739 tm B := (TM_fr w3617 gtm f3744 rfl (TM_fr hW gtm f3618 rfl htm))
        have h3804 : DD T H3739 cu  := (DD_fr w3617 gcu f3744 rfl (DD_fr hW gcu f3618 rfl hcu))
        have h3805 : DD T H3739 dr  := (DD_fr w3617 gdr f3744 rfl (DD_fr hW gdr f3618 rfl hdr))
        have h3806 : DE T H3739 cu  := (DE_fr w3617 gcu f3744 rfl (DE_fr hW gcu f3618 rfl hdec))
        have h3807 : DE T H3739 dr  := (DE_fr w3617 gdr f3744 rfl (DE_fr hW gdr f3618 rfl hded))
        have h3808 : SP T H3739 x C8 := (SP_fr w3617 gx f3744 rfl (SP_fr hW gx f3618 rfl hsp))
        have h3809 : CU T H3739 cu e8 d8 n8 := (CU_fr w3617 gcu f3744 rfl (CU_fr hW gcu f3618 rfl hcu8))
        have h3810 : CY T H3739 cu (d8 0 3) g8 (H cu 17) := (CY_fr w3617 gcu f3744 rfl (CY_fr hW gcu f3618 rfl h3606))
        have k3811 : H3739 x 3 = H x 3 := ((f3744 x 3 _ gx rfl).trans (f3618 x 3 _ gx rfl))
        have q3812 : H3739 x 3 = (ce8 : Int) := k3811.trans ece8
        have h3813 : HDR T H3739 ce8  := (HDR_fr w3617 gce8 f3744 rfl (HDR_fr hW gce8 f3618 rfl hhdr8))
        have h3814 : RY T H3739 m (d8 0 3) g8 (H m 32) := (RY_fr w3617 gm f3744 rfl (RY_fr hW gm f3618 rfl h3607))
        have h3815 : RB T H3739 m e8 d8 := (RB_fr w3617 gm f3744 rfl h3735)
        exact WL.loc hX (by simp) (next T H3739 ⟨⟨w3743, g0, gx, gm, go, by omega, by omega⟩, ⟨_, tc, tm, cu, dr, _, _, _, _, _, ce8, q3794, gtc, h3802, q3796, gtm, h3803, q3798, gcu, q3800, gdr, h3804, h3805, h3806, h3807, h3808, hC1, hC2, h3809, h3815, (h3810).1, (h3814).1, hE, hZ, (by omega), (by assumption), (by omega), (by first | assumption | exact SG_0), q3812, gce8, h3801, h3813, a3755, gm⟩, by omega, by omega⟩ (by omega) (by omega))
      · refine wl_of hX hb cL_917 (rw_iconst (pc' := 918) rfl ?_)
        exfalso
        omega
set_option maxHeartbeats 4000000 in
theorem wl_c23 {kt : Nat → Option mc_E} {CB SB : Nat} {X : mc_S → Prop} {T : wq_T} {H : wq_H} {Len x m o : Nat} {i : Int} (hX : wlX kt CB SB X) (hb : T.2.1 ≤ CB ∧ T.2.2.1 ≤ SB) (hI : wlJ Len x m o T H) (hL : Len ≤ 3072) (hi : 0 ≤ i ∧ i + 6 ≤ Len) (hb2 : T.2.1 + 20 ≤ CB ∧ T.2.2.1 + 500 ≤ SB)  (next : ∀ T' H', wlJ Len x m o T' H' → T'.2.1 ≤ T.2.1 + 20 → T'.2.2.1 ≤ T.2.2.1 + 500 → WL kt CB SB X 1653 (wlL i x m o) [] T' H') : WL kt CB SB X 919 (wlL i x m o) [] T H := by
  obtain ⟨⟨hW, g0, gx, gm, go, hK, hr⟩, hXI, hY1, hY2⟩ := hI
  refine wl_of hX hb cL_919 (rw_aload_n (pc' := 920) (v := .ref x) rfl rfl rfl ?_)
  refine wl_of hX hb cL_920 (rw_aload_n (pc' := 921) (v := .ref 0) rfl rfl rfl ?_)
  refine wl_of hX hb cL_921 (rw_iload (pc' := 923) (z := i) rfl rfl ?_)
  refine wl_of hX hb cL_923 (rw_iconst (pc' := 924) rfl ?_)
  refine wl_of hX hb cL_924 (rw_iadd (pc' := 925) rfl ?_)
  refine wl_of hX hb cL_925 (xa_I (so := 0) (pc' := 926) (a := 0) hW g0 (wsh_s _) (by omega) (wty_s _ _) (by omega) (by omega) rfl (fun b3816 b3817 => ?_))
  obtain ⟨B, tc, tm, cu, dr, C8, e8, d8, n8, g8, ce8, e0, gtc, htc, em, gtm, htm, ecu, gcu, edr, gdr, hcu, hdr, hdec, hded, hsp, hC1, hC2, hcu8, hrb8, hcg8, hmn8, hE, hZ, hn8, hXA, hV8, hSG, ece8, gce8, hcen8, hhdr8, hknn8, -⟩ := hXI
  have hN3 := RB_n3 hrb8
  have hE13 : ∀ h : Nat, h < 24 → 0 ≤ e8 13 h ∧ e8 13 h ≤ 100 := fun k hk => by
    obtain ⟨s, h1, h2, h3⟩ := hcu8.1.2.2.1
    exact ⟨(h3 k hk).1, (h3 k hk).2.1⟩
  have hXW := hXA.1
  have hXN := hXA.2
  have hE0 : e8 0 3 = d8 0 3 ∧ e8 0 0 = d8 0 0 := by
    have h := hE 0 (by decide)
    exact ⟨congrFun h 3, congrFun h 0⟩
  have u3818 := CU_k hcu8
  have h3819 : CY T H cu (d8 0 3) g8 (H cu 17) := ⟨hcg8, rfl⟩
  have h3820 : RY T H m (d8 0 3) g8 (H m 32) := ⟨hmn8, rfl⟩
  obtain ⟨t9, ht9⟩ : ∃ t : Int, t = H x 9 := ⟨_, rfl⟩
  obtain ⟨y9, hy9⟩ : ∃ y : Int, y = H 0 ((i + 1).toNat) := ⟨_, rfl⟩
  obtain ⟨r3821, q3822, g3823⟩ := hW.ref gx (t' := 6) (n := 13) (j := 2) (p := 0) (q := 0) rfl (by decide) rfl
  refine wl_of hX hb cL_926 (xc_V (pc' := 929) (r := x) (as := [vI (H 0 ((i + 1).toNat))]) (st := []) (lm_11_118) rfl rfl (Nat.le_of_ble_eq_true rfl) hW gx sh_1 (by decide) rfl (by decide) (u_107 (e := e8) (d := d8) (n := n8) hW gx ⟨by omega, by omega⟩ ecu gcu q3822 g3823 ece8 gce8 (by assumption) (by assumption) (by omega) (by omega) (by omega) (by omega) hcu8 hcen8 hhdr8) (fun R3824 T3825 H3826 p3827 => ?_))
  obtain ⟨e3828, w3830, f3831, z3832, e3829, b3833, p3834⟩ := p3827
  subst e3828
  subst e3829
  show WL _ _ _ _ 929 [(4, vI i), (3, .ref o), (2, .ref m), (1, .ref x), (0, .ref 0)] [vI z3832] _ H3826
  refine wl_of hX hb cL_929 (rw_pop (pc' := 930) rfl rfl ?_)
  refine wl_of hX hb cL_930 (rw_aload_n (pc' := 931) (v := .ref m) rfl rfl rfl ?_)
  refine wl_of hX hb cL_931 (rw_aload_n (pc' := 932) (v := .ref 0) rfl rfl rfl ?_)
  refine wl_of hX hb cL_932 (rw_iload (pc' := 934) (z := i) rfl rfl ?_)
  refine wl_of hX hb cL_934 (rw_iconst (pc' := 935) rfl ?_)
  refine wl_of hX hb cL_935 (rw_iadd (pc' := 936) rfl ?_)
  have k3838 : H3826 0 ((i + 1).toNat) = H 0 ((i + 1).toNat) := (f3831 0 ((i + 1).toNat) _ g0 (wmem_s rfl))
  refine wl_of hX hb cL_936 (xa_I (so := 0) (pc' := 937) (a := 0) w3830 g0 (wsh_s _) (by omega) (wty_s _ _) (by omega) (by omega) rfl (fun b3836 b3837 => ?_))
  have k3839 : wKI H3826 m = wKI H m := (wKI_fr hW gm f3831 rfl)
  have k3840 : H3826 x 9 = H x 9 := (f3831 x 9 _ gx rfl)
  have k3841 : H3826 m 6 = H m 6 := (f3831 m 6 _ gm rfl)
  have k3842 : H3826 x 11 = H x 11 := (f3831 x 11 _ gx rfl)
  have k3843 : H3826 m 13 = H m 13 := (f3831 m 13 _ gm rfl)
  have k3844 : H3826 x 8 = H x 8 := (f3831 x 8 _ gx rfl)
  have k3845 : H3826 m 3 = H m 3 := (f3831 m 3 _ gm rfl)
  rw [show H3826 0 ((i + 1).toNat) = H 0 ((i + 1).toNat) by omega]
  have h3846 : RB T H3826 m e8 d8 := (RB_fr hW gm f3831 rfl hrb8)
  have h3847 : KNN T H3826 m e8 d8 := (KNN_fr hW gm f3831 rfl hknn8)
  refine wl_of hX hb cL_937 (xc_V (pc' := 940) (r := m) (as := [vI (H 0 ((i + 1).toNat))]) (st := []) (lm_11_121) rfl rfl (Nat.le_of_ble_eq_true rfl) w3830 gm sh_42 (by decide) rfl (by decide) (u_256 (e := e8) (d := d8) w3830 gm ⟨by omega, by omega⟩ (by omega) (by assumption) (by assumption) (by assumption) (by assumption) h3846 h3847) (fun R3848 T3849 H3850 p3851 => ?_))
  obtain ⟨e3852, w3854, f3855, z3856, e3853, b3857, p3858⟩ := p3851
  subst e3852
  subst e3853
  obtain ⟨a3859, a3860⟩ := p3858
  show WL _ _ _ _ 940 [(4, vI i), (3, .ref o), (2, .ref m), (1, .ref x), (0, .ref 0)] [vI z3856] _ H3850
  refine wl_of hX hb cL_940 (rw_pop (pc' := 941) rfl rfl ?_)
  refine wl_of hX hb cL_941 (rw_goto (p1 := 1653) (by decide) ?_)
  have k3861 : H3850 x 9 = H3826 x 9 := (f3855 x 9 _ gx rfl)
  have k3862 : H3850 m 6 = H3826 m 6 := (f3855 m 6 _ gm rfl)
  have k3863 : H3850 x 11 = H3826 x 11 := (f3855 x 11 _ gx rfl)
  have k3864 : H3850 m 13 = H3826 m 13 := (f3855 m 13 _ gm rfl)
  have k3865 : H3850 x 8 = H3826 x 8 := (f3855 x 8 _ gx rfl)
  have k3866 : H3850 m 3 = H3826 m 3 := (f3855 m 3 _ gm rfl)
  have k3867 : H3850 x 0 = H x 0 := ((f3855 x 0 _ gx rfl).trans (f3831 x 0 _ gx rfl))
  have q3868 : H3850 x 0 = (tc : Int) := k3867.trans e0
  have k3869 : H3850 m 5 = H m 5 := ((f3855 m 5 _ gm rfl).trans (f3831 m 5 _ gm rfl))
  have q3870 : H3850 m 5 = (tm : Int) := k3869.trans em
  have k3871 : H3850 x 6 = H x 6 := ((f3855 x 6 _ gx rfl).trans (f3831 x 6 _ gx rfl))
  have q3872 : H3850 x 6 = (cu : Int) := k3871.trans ecu
  have k3873 : H3850 x 7 = H x 7 := ((f3855 x 7 _ gx rfl).trans (f3831 x 7 _ gx rfl))
  have q3874 : H3850 x 7 = (dr : Int) := k3873.trans edr
  have h3875 : CEN T H3850 ce8 e8 d8 := (CEN_fr w3830 gce8 f3855 rfl p3834)
  have h3876 : TP T H3850 tc B := (TP_fr w3830 gtc f3855 rfl (TP_fr hW gtc f3831 rfl htc))
  have h3877 : TM T H3850 tm B := (TM_fr w3830 gtm f3855 rfl (TM_fr hW gtm f3831 rfl htm))
  have h3878 : DD T H3850 cu  := (DD_fr w3830 gcu f3855 rfl (DD_fr hW gcu f3831 rfl hcu))
  have h3879 : DD T H3850 dr  := (DD_fr w3830 gdr f3855 rfl (DD_fr hW gdr f3831 rfl hdr))
  have h3880 : DE T H3850 cu  := (DE_fr w3830 gcu f3855 rfl (DE_fr hW gcu f3831 rfl hdec))
  have h3881 : DE T H3850 dr  := (DE_fr w3830 gdr f3855 rfl (DE_fr hW gdr f3831 rfl hded))
  have h3882 : SP T H3850 x C8 := (SP_fr w3830 gx f3855 rfl (SP_fr hW gx f3831 rfl hsp))
  have h3883 : CU T H3850 cu e8 d8 n8 := (CU_fr w3830 gcu f3855 rfl (CU_fr hW gcu f3831 rfl hcu8))
  have h3884 : CY T H3850 cu (d8 0 3) g8 (H cu 17) := (CY_fr w3830 gcu f3855 rfl (CY_fr hW gcu f3831 rfl h3819))
  have k3885 : H3850 x 3 = H x 3 := ((f3855 x 3 _ gx rfl).trans (f3831 x 3 _ gx rfl))
  have q3886 : H3850 x 3 = (ce8 : Int) := k3885.trans ece8
  have h3887 : HDR T H3850 ce8  := (HDR_fr w3830 gce8 f3855 rfl (HDR_fr hW gce8 f3831 rfl hhdr8))
  have h3888 : RY T H3850 m (d8 0 3) g8 (H m 32) := (RY_fr w3830 gm f3855 rfl (RY_fr hW gm f3831 rfl h3820))
  have h3889 : RB T H3850 m e8 d8 := (RB_fr w3830 gm f3855 rfl h3846)
  exact WL.loc hX (by simp) (next T H3850 ⟨⟨w3854, g0, gx, gm, go, by omega, by omega⟩, ⟨_, tc, tm, cu, dr, _, _, _, _, _, ce8, q3868, gtc, h3876, q3870, gtm, h3877, q3872, gcu, q3874, gdr, h3878, h3879, h3880, h3881, h3882, hC1, hC2, h3883, h3889, (h3884).1, (h3888).1, hE, hZ, (by omega), (by assumption), (by omega), (by first | assumption | exact SG_0), q3886, gce8, h3875, h3887, a3860, gm⟩, by omega, by omega⟩ (by omega) (by omega))
set_option maxHeartbeats 4000000 in
theorem wl_c24 {kt : Nat → Option mc_E} {CB SB : Nat} {X : mc_S → Prop} {T : wq_T} {H : wq_H} {Len x m o : Nat} {i : Int} (hX : wlX kt CB SB X) (hb : T.2.1 ≤ CB ∧ T.2.2.1 ≤ SB) (hI : wlJ Len x m o T H) (hL : Len ≤ 3072) (hi : 0 ≤ i ∧ i + 6 ≤ Len) (hb2 : T.2.1 + 20 ≤ CB ∧ T.2.2.1 + 500 ≤ SB)  (next : ∀ T' H', wlJ Len x m o T' H' → T'.2.1 ≤ T.2.1 + 20 → T'.2.2.1 ≤ T.2.2.1 + 500 → WL kt CB SB X 1653 (wlL i x m o) [] T' H') : WL kt CB SB X 944 (wlL i x m o) [] T H := by
  obtain ⟨⟨hW, g0, gx, gm, go, hK, hr⟩, hXI, hY1, hY2⟩ := hI
  refine wl_of hX hb cL_944 (rw_aload_n (pc' := 945) (v := .ref x) rfl rfl rfl ?_)
  obtain ⟨B, tc, tm, cu, dr, C8, e8, d8, n8, g8, ce8, e0, gtc, htc, em, gtm, htm, ecu, gcu, edr, gdr, hcu, hdr, hdec, hded, hsp, hC1, hC2, hcu8, hrb8, hcg8, hmn8, hE, hZ, hn8, hXA, hV8, hSG, ece8, gce8, hcen8, hhdr8, hknn8, -⟩ := hXI
  have hN3 := RB_n3 hrb8
  have hE13 : ∀ h : Nat, h < 24 → 0 ≤ e8 13 h ∧ e8 13 h ≤ 100 := fun k hk => by
    obtain ⟨s, h1, h2, h3⟩ := hcu8.1.2.2.1
    exact ⟨(h3 k hk).1, (h3 k hk).2.1⟩
  have hXW := hXA.1
  have hXN := hXA.2
  have hE0 : e8 0 3 = d8 0 3 ∧ e8 0 0 = d8 0 0 := by
    have h := hE 0 (by decide)
    exact ⟨congrFun h 3, congrFun h 0⟩
  have u3890 := CU_k hcu8
  have h3891 : CY T H cu (d8 0 3) g8 (H cu 17) := ⟨hcg8, rfl⟩
  have h3892 : RY T H m (d8 0 3) g8 (H m 32) := ⟨hmn8, rfl⟩
  obtain ⟨t9, ht9⟩ : ∃ t : Int, t = H x 9 := ⟨_, rfl⟩
  obtain ⟨r3893, q3894, g3895⟩ := hW.ref gx (t' := 6) (n := 13) (j := 2) (p := 0) (q := 0) rfl (by decide) rfl
  refine wl_of hX hb cL_945 (xc_V (pc' := 948) (r := x) (as := []) (st := []) (lm_11_122) rfl rfl (Nat.le_of_ble_eq_true rfl) hW gx sh_1 (by decide) rfl (by decide) (u_108 (e := e8) (d := d8) (n := n8) hW gx ecu gcu q3894 g3895 ece8 gce8 (by assumption) (by assumption) (by omega) (by omega) (by omega) (by omega) hcu8 hcen8 hhdr8) (fun R3896 T3897 H3898 p3899 => ?_))
  obtain ⟨e3900, w3902, f3903, z3904, e3901, b3905, p3906⟩ := p3899
  subst e3900
  subst e3901
  show WL _ _ _ _ 948 [(4, vI i), (3, .ref o), (2, .ref m), (1, .ref x), (0, .ref 0)] [vL z3904] _ H3898
  refine wl_of hX hb cL_948 (rw_pop2 (pc' := 949) rfl rfl ?_)
  refine wl_of hX hb cL_949 (rw_aload_n (pc' := 950) (v := .ref m) rfl rfl rfl ?_)
  have k3908 : wKI H3898 m = wKI H m := (wKI_fr hW gm f3903 rfl)
  have k3909 : H3898 x 9 = H x 9 := (f3903 x 9 _ gx rfl)
  have k3910 : H3898 m 6 = H m 6 := (f3903 m 6 _ gm rfl)
  have k3911 : H3898 x 11 = H x 11 := (f3903 x 11 _ gx rfl)
  have k3912 : H3898 m 13 = H m 13 := (f3903 m 13 _ gm rfl)
  have k3913 : H3898 x 8 = H x 8 := (f3903 x 8 _ gx rfl)
  have k3914 : H3898 m 3 = H m 3 := (f3903 m 3 _ gm rfl)
  have h3915 : RB T H3898 m e8 d8 := (RB_fr hW gm f3903 rfl hrb8)
  have h3916 : KNN T H3898 m e8 d8 := (KNN_fr hW gm f3903 rfl hknn8)
  refine wl_of hX hb cL_950 (xc_V (pc' := 953) (r := m) (as := []) (st := []) (lm_11_125) rfl rfl (Nat.le_of_ble_eq_true rfl) w3902 gm sh_42 (by decide) rfl (by decide) (u_258 (e := e8) (d := d8) w3902 gm (by omega) (by assumption) (by assumption) (by assumption) (by assumption) h3915 h3916) (fun R3917 T3918 H3919 p3920 => ?_))
  obtain ⟨e3921, w3923, f3924, z3925, e3922, b3926, p3927⟩ := p3920
  subst e3921
  subst e3922
  obtain ⟨a3928, a3929⟩ := p3927
  show WL _ _ _ _ 953 [(4, vI i), (3, .ref o), (2, .ref m), (1, .ref x), (0, .ref 0)] [vL z3925] _ H3919
  refine wl_of hX hb cL_953 (rw_pop2 (pc' := 954) rfl rfl ?_)
  refine wl_of hX hb cL_954 (rw_goto (p1 := 1653) (by decide) ?_)
  have k3930 : H3919 x 9 = H3898 x 9 := (f3924 x 9 _ gx rfl)
  have k3931 : H3919 m 6 = H3898 m 6 := (f3924 m 6 _ gm rfl)
  have k3932 : H3919 x 11 = H3898 x 11 := (f3924 x 11 _ gx rfl)
  have k3933 : H3919 m 13 = H3898 m 13 := (f3924 m 13 _ gm rfl)
  have k3934 : H3919 x 8 = H3898 x 8 := (f3924 x 8 _ gx rfl)
  have k3935 : H3919 m 3 = H3898 m 3 := (f3924 m 3 _ gm rfl)
  have k3936 : H3919 x 0 = H x 0 := ((f3924 x 0 _ gx rfl).trans (f3903 x 0 _ gx rfl))
  have q3937 : H3919 x 0 = (tc : Int) := k3936.trans e0
  have k3938 : H3919 m 5 = H m 5 := ((f3924 m 5 _ gm rfl).trans (f3903 m 5 _ gm rfl))
  have q3939 : H3919 m 5 = (tm : Int) := k3938.trans em
  have k3940 : H3919 x 6 = H x 6 := ((f3924 x 6 _ gx rfl).trans (f3903 x 6 _ gx rfl))
  have q3941 : H3919 x 6 = (cu : Int) := k3940.trans ecu
  have k3942 : H3919 x 7 = H x 7 := ((f3924 x 7 _ gx rfl).trans (f3903 x 7 _ gx rfl))
  have q3943 : H3919 x 7 = (dr : Int) := k3942.trans edr
  have h3944 : CEN T H3919 ce8 e8 d8 := (CEN_fr w3902 gce8 f3924 rfl p3906)
  have h3945 : TP T H3919 tc B := (TP_fr w3902 gtc f3924 rfl (TP_fr hW gtc f3903 rfl htc))
  have h3946 : TM T H3919 tm B := (TM_fr w3902 gtm f3924 rfl (TM_fr hW gtm f3903 rfl htm))
  have h3947 : DD T H3919 cu  := (DD_fr w3902 gcu f3924 rfl (DD_fr hW gcu f3903 rfl hcu))
  have h3948 : DD T H3919 dr  := (DD_fr w3902 gdr f3924 rfl (DD_fr hW gdr f3903 rfl hdr))
  have h3949 : DE T H3919 cu  := (DE_fr w3902 gcu f3924 rfl (DE_fr hW gcu f3903 rfl hdec))
  have h3950 : DE T H3919 dr  := (DE_fr w3902 gdr f3924 rfl (DE_fr hW gdr f3903 rfl hded))
  have h3951 : SP T H3919 x C8 := (SP_fr w3902 gx f3924 rfl (SP_fr hW gx f3903 rfl hsp))
  have h3952 : CU T H3919 cu e8 d8 n8 := (CU_fr w3902 gcu f3924 rfl (CU_fr hW gcu f3903 rfl hcu8))
  have h3953 : CY T H3919 cu (d8 0 3) g8 (H cu 17) := (CY_fr w3902 gcu f3924 rfl (CY_fr hW gcu f3903 rfl h3891))
  have k3954 : H3919 x 3 = H x 3 := ((f3924 x 3 _ gx rfl).trans (f3903 x 3 _ gx rfl))
  have q3955 : H3919 x 3 = (ce8 : Int) := k3954.trans ece8
  have h3956 : HDR T H3919 ce8  := (HDR_fr w3902 gce8 f3924 rfl (HDR_fr hW gce8 f3903 rfl hhdr8))
  have h3957 : RY T H3919 m (d8 0 3) g8 (H m 32) := (RY_fr w3902 gm f3924 rfl (RY_fr hW gm f3903 rfl h3892))
  have h3958 : RB T H3919 m e8 d8 := (RB_fr w3902 gm f3924 rfl h3915)
  exact WL.loc hX (by simp) (next T H3919 ⟨⟨w3923, g0, gx, gm, go, by omega, by omega⟩, ⟨_, tc, tm, cu, dr, _, _, _, _, _, ce8, q3937, gtc, h3945, q3939, gtm, h3946, q3941, gcu, q3943, gdr, h3947, h3948, h3949, h3950, h3951, hC1, hC2, h3952, h3958, (h3953).1, (h3957).1, hE, hZ, (by omega), (by assumption), (by omega), (by first | assumption | exact SG_0), q3955, gce8, h3944, h3956, a3929, gm⟩, by omega, by omega⟩ (by omega) (by omega))
set_option maxHeartbeats 4000000 in
theorem wl_c25 {kt : Nat → Option mc_E} {CB SB : Nat} {X : mc_S → Prop} {T : wq_T} {H : wq_H} {Len x m o : Nat} {i : Int} (hX : wlX kt CB SB X) (hb : T.2.1 ≤ CB ∧ T.2.2.1 ≤ SB) (hI : wlJ Len x m o T H) (hL : Len ≤ 3072) (hi : 0 ≤ i ∧ i + 6 ≤ Len) (hb2 : T.2.1 + 20 ≤ CB ∧ T.2.2.1 + 500 ≤ SB)  (next : ∀ T' H', wlJ Len x m o T' H' → T'.2.1 ≤ T.2.1 + 20 → T'.2.2.1 ≤ T.2.2.1 + 500 → WL kt CB SB X 1653 (wlL i x m o) [] T' H') : WL kt CB SB X 957 (wlL i x m o) [] T H := by
  obtain ⟨⟨hW, g0, gx, gm, go, hK, hr⟩, hXI, hY1, hY2⟩ := hI
  refine wl_of hX hb cL_957 (rw_aload_n (pc' := 958) (v := .ref x) rfl rfl rfl ?_)
  refine wl_of hX hb cL_958 (rw_aload_n (pc' := 959) (v := .ref 0) rfl rfl rfl ?_)
  refine wl_of hX hb cL_959 (rw_iload (pc' := 961) (z := i) rfl rfl ?_)
  refine wl_of hX hb cL_961 (rw_iconst (pc' := 962) rfl ?_)
  refine wl_of hX hb cL_962 (rw_iadd (pc' := 963) rfl ?_)
  refine wl_of hX hb cL_963 (xa_I (so := 0) (pc' := 964) (a := 0) hW g0 (wsh_s _) (by omega) (wty_s _ _) (by omega) (by omega) rfl (fun b3959 b3960 => ?_))
  refine wl_of hX hb cL_964 (rw_aload_n (pc' := 965) (v := .ref 0) rfl rfl rfl ?_)
  refine wl_of hX hb cL_965 (rw_iload (pc' := 967) (z := i) rfl rfl ?_)
  refine wl_of hX hb cL_967 (rw_iconst (pc' := 968) rfl ?_)
  refine wl_of hX hb cL_968 (rw_iadd (pc' := 969) rfl ?_)
  refine wl_of hX hb cL_969 (xa_I (so := 0) (pc' := 970) (a := 0) hW g0 (wsh_s _) (by omega) (wty_s _ _) (by omega) (by omega) rfl (fun b3961 b3962 => ?_))
  obtain ⟨B, tc, tm, cu, dr, C8, e8, d8, n8, g8, ce8, e0, gtc, htc, em, gtm, htm, ecu, gcu, edr, gdr, hcu, hdr, hdec, hded, hsp, hC1, hC2, hcu8, hrb8, hcg8, hmn8, hE, hZ, hn8, hXA, hV8, hSG, ece8, gce8, hcen8, hhdr8, hknn8, -⟩ := hXI
  have hN3 := RB_n3 hrb8
  have hE13 : ∀ h : Nat, h < 24 → 0 ≤ e8 13 h ∧ e8 13 h ≤ 100 := fun k hk => by
    obtain ⟨s, h1, h2, h3⟩ := hcu8.1.2.2.1
    exact ⟨(h3 k hk).1, (h3 k hk).2.1⟩
  have hXW := hXA.1
  have hXN := hXA.2
  have hE0 : e8 0 3 = d8 0 3 ∧ e8 0 0 = d8 0 0 := by
    have h := hE 0 (by decide)
    exact ⟨congrFun h 3, congrFun h 0⟩
  have u3963 := CU_k hcu8
  have h3964 : CY T H cu (d8 0 3) g8 (H cu 17) := ⟨hcg8, rfl⟩
  have h3965 : RY T H m (d8 0 3) g8 (H m 32) := ⟨hmn8, rfl⟩
  obtain ⟨t9, ht9⟩ : ∃ t : Int, t = H x 9 := ⟨_, rfl⟩
  obtain ⟨y9, hy9⟩ : ∃ y : Int, y = H 0 ((i + 2).toNat) := ⟨_, rfl⟩
  obtain ⟨r3966, q3967, g3968⟩ := hW.ref gx (t' := 6) (n := 13) (j := 2) (p := 0) (q := 0) rfl (by decide) rfl
  refine wl_of hX hb cL_970 (xc_V (pc' := 973) (r := x) (as := [vI (H 0 ((i + 1).toNat)), vI (H 0 ((i + 2).toNat))]) (st := []) (lm_11_126) rfl rfl (Nat.le_of_ble_eq_true rfl) hW gx sh_1 (by decide) rfl (by decide) (u_109 (e := e8) (d := d8) (n := n8) hW gx ⟨by omega, by omega⟩ ⟨by omega, by omega⟩ ecu gcu q3967 g3968 ece8 gce8 (by assumption) (by assumption) (by omega) (by omega) (by omega) (by omega) hcu8 hcen8 hhdr8) (fun R3969 T3970 H3971 p3972 => ?_))
  obtain ⟨e3973, w3975, f3976, z3977, e3974, b3978, p3979⟩ := p3972
  subst e3973
  subst e3974
  show WL _ _ _ _ 973 [(4, vI i), (3, .ref o), (2, .ref m), (1, .ref x), (0, .ref 0)] [vI z3977] _ H3971
  refine wl_of hX hb cL_973 (rw_pop (pc' := 974) rfl rfl ?_)
  refine wl_of hX hb cL_974 (rw_aload_n (pc' := 975) (v := .ref m) rfl rfl rfl ?_)
  refine wl_of hX hb cL_975 (rw_aload_n (pc' := 976) (v := .ref 0) rfl rfl rfl ?_)
  refine wl_of hX hb cL_976 (rw_iload (pc' := 978) (z := i) rfl rfl ?_)
  refine wl_of hX hb cL_978 (rw_iconst (pc' := 979) rfl ?_)
  refine wl_of hX hb cL_979 (rw_iadd (pc' := 980) rfl ?_)
  have k3983 : H3971 0 ((i + 1).toNat) = H 0 ((i + 1).toNat) := (f3976 0 ((i + 1).toNat) _ g0 (wmem_s rfl))
  refine wl_of hX hb cL_980 (xa_I (so := 0) (pc' := 981) (a := 0) w3975 g0 (wsh_s _) (by omega) (wty_s _ _) (by omega) (by omega) rfl (fun b3981 b3982 => ?_))
  refine wl_of hX hb cL_981 (rw_aload_n (pc' := 982) (v := .ref 0) rfl rfl rfl ?_)
  refine wl_of hX hb cL_982 (rw_iload (pc' := 984) (z := i) rfl rfl ?_)
  refine wl_of hX hb cL_984 (rw_iconst (pc' := 985) rfl ?_)
  refine wl_of hX hb cL_985 (rw_iadd (pc' := 986) rfl ?_)
  have k3986 : H3971 0 ((i + 2).toNat) = H 0 ((i + 2).toNat) := (f3976 0 ((i + 2).toNat) _ g0 (wmem_s rfl))
  refine wl_of hX hb cL_986 (xa_I (so := 0) (pc' := 987) (a := 0) w3975 g0 (wsh_s _) (by omega) (wty_s _ _) (by omega) (by omega) rfl (fun b3984 b3985 => ?_))
  have k3987 : wKI H3971 m = wKI H m := (wKI_fr hW gm f3976 rfl)
  have k3988 : H3971 x 9 = H x 9 := (f3976 x 9 _ gx rfl)
  have k3989 : H3971 m 6 = H m 6 := (f3976 m 6 _ gm rfl)
  have k3990 : H3971 x 11 = H x 11 := (f3976 x 11 _ gx rfl)
  have k3991 : H3971 m 13 = H m 13 := (f3976 m 13 _ gm rfl)
  have k3992 : H3971 x 8 = H x 8 := (f3976 x 8 _ gx rfl)
  have k3993 : H3971 m 3 = H m 3 := (f3976 m 3 _ gm rfl)
  rw [show H3971 0 ((i + 2).toNat) = H 0 ((i + 2).toNat) by omega]
  rw [show H3971 0 ((i + 1).toNat) = H 0 ((i + 1).toNat) by omega]
  have h3994 : RB T H3971 m e8 d8 := (RB_fr hW gm f3976 rfl hrb8)
  have h3995 : KNN T H3971 m e8 d8 := (KNN_fr hW gm f3976 rfl hknn8)
  refine wl_of hX hb cL_987 (xc_V (pc' := 990) (r := m) (as := [vI (H 0 ((i + 1).toNat)), vI (H 0 ((i + 2).toNat))]) (st := []) (lm_11_129) rfl rfl (Nat.le_of_ble_eq_true rfl) w3975 gm sh_42 (by decide) rfl (by decide) (u_259 (e := e8) (d := d8) w3975 gm ⟨by omega, by omega⟩ ⟨by omega, by omega⟩ (by omega) (by assumption) (by assumption) (by assumption) (by assumption) h3994 h3995) (fun R3996 T3997 H3998 p3999 => ?_))
  obtain ⟨e4000, w4002, f4003, z4004, e4001, b4005, p4006⟩ := p3999
  subst e4000
  subst e4001
  obtain ⟨a4007, a4008⟩ := p4006
  show WL _ _ _ _ 990 [(4, vI i), (3, .ref o), (2, .ref m), (1, .ref x), (0, .ref 0)] [vI z4004] _ H3998
  refine wl_of hX hb cL_990 (rw_pop (pc' := 991) rfl rfl ?_)
  refine wl_of hX hb cL_991 (rw_goto (p1 := 1653) (by decide) ?_)
  have k4009 : H3998 x 9 = H3971 x 9 := (f4003 x 9 _ gx rfl)
  have k4010 : H3998 m 6 = H3971 m 6 := (f4003 m 6 _ gm rfl)
  have k4011 : H3998 x 11 = H3971 x 11 := (f4003 x 11 _ gx rfl)
  have k4012 : H3998 m 13 = H3971 m 13 := (f4003 m 13 _ gm rfl)
  have k4013 : H3998 x 8 = H3971 x 8 := (f4003 x 8 _ gx rfl)
  have k4014 : H3998 m 3 = H3971 m 3 := (f4003 m 3 _ gm rfl)
  have k4015 : H3998 x 0 = H x 0 := ((f4003 x 0 _ gx rfl).trans (f3976 x 0 _ gx rfl))
  have q4016 : H3998 x 0 = (tc : Int) := k4015.trans e0
  have k4017 : H3998 m 5 = H m 5 := ((f4003 m 5 _ gm rfl).trans (f3976 m 5 _ gm rfl))
  have q4018 : H3998 m 5 = (tm : Int) := k4017.trans em
  have k4019 : H3998 x 6 = H x 6 := ((f4003 x 6 _ gx rfl).trans (f3976 x 6 _ gx rfl))
  have q4020 : H3998 x 6 = (cu : Int) := k4019.trans ecu
  have k4021 : H3998 x 7 = H x 7 := ((f4003 x 7 _ gx rfl).trans (f3976 x 7 _ gx rfl))
  have q4022 : H3998 x 7 = (dr : Int) := k4021.trans edr
  have h4023 : CEN T H3998 ce8 e8 d8 := (CEN_fr w3975 gce8 f4003 rfl p3979)
  have h4024 : TP T H3998 tc B := (TP_fr w3975 gtc f4003 rfl (TP_fr hW gtc f3976 rfl htc))
  have h4025 : TM T H3998 tm B := (TM_fr w3975 gtm f4003 rfl (TM_fr hW gtm f3976 rfl htm))
  have h4026 : DD T H3998 cu  := (DD_fr w3975 gcu f4003 rfl (DD_fr hW gcu f3976 rfl hcu))
  have h4027 : DD T H3998 dr  := (DD_fr w3975 gdr f4003 rfl (DD_fr hW gdr f3976 rfl hdr))
  have h4028 : DE T H3998 cu  := (DE_fr w3975 gcu f4003 rfl (DE_fr hW gcu f3976 rfl hdec))
  have h4029 : DE T H3998 dr  := (DE_fr w3975 gdr f4003 rfl (DE_fr hW gdr f3976 rfl hded))
  have h4030 : SP T H3998 x C8 := (SP_fr w3975 gx f4003 rfl (SP_fr hW gx f3976 rfl hsp))
  have h4031 : CU T H3998 cu e8 d8 n8 := (CU_fr w3975 gcu f4003 rfl (CU_fr hW gcu f3976 rfl hcu8))
  have h4032 : CY T H3998 cu (d8 0 3) g8 (H cu 17) := (CY_fr w3975 gcu f4003 rfl (CY_fr hW gcu f3976 rfl h3964))
  have k4033 : H3998 x 3 = H x 3 := ((f4003 x 3 _ gx rfl).trans (f3976 x 3 _ gx rfl))
  have q4034 : H3998 x 3 = (ce8 : Int) := k4033.trans ece8
  have h4035 : HDR T H3998 ce8  := (HDR_fr w3975 gce8 f4003 rfl (HDR_fr hW gce8 f3976 rfl hhdr8))
  have h4036 : RY T H3998 m (d8 0 3) g8 (H m 32) := (RY_fr w3975 gm f4003 rfl (RY_fr hW gm f3976 rfl h3965))
  have h4037 : RB T H3998 m e8 d8 := (RB_fr w3975 gm f4003 rfl h3994)
  exact WL.loc hX (by simp) (next T H3998 ⟨⟨w4002, g0, gx, gm, go, by omega, by omega⟩, ⟨_, tc, tm, cu, dr, _, _, _, _, _, ce8, q4016, gtc, h4024, q4018, gtm, h4025, q4020, gcu, q4022, gdr, h4026, h4027, h4028, h4029, h4030, hC1, hC2, h4031, h4037, (h4032).1, (h4036).1, hE, hZ, (by omega), (by assumption), (by omega), (by first | assumption | exact SG_0), q4034, gce8, h4023, h4035, a4008, gm⟩, by omega, by omega⟩ (by omega) (by omega))
set_option maxHeartbeats 4000000 in
theorem wl_c26 {kt : Nat → Option mc_E} {CB SB : Nat} {X : mc_S → Prop} {T : wq_T} {H : wq_H} {Len x m o : Nat} {i : Int} (hX : wlX kt CB SB X) (hb : T.2.1 ≤ CB ∧ T.2.2.1 ≤ SB) (hI : wlJ Len x m o T H) (hL : Len ≤ 3072) (hi : 0 ≤ i ∧ i + 6 ≤ Len) (hb2 : T.2.1 + 20 ≤ CB ∧ T.2.2.1 + 500 ≤ SB)  (next : ∀ T' H', wlJ Len x m o T' H' → T'.2.1 ≤ T.2.1 + 20 → T'.2.2.1 ≤ T.2.2.1 + 500 → WL kt CB SB X 1653 (wlL i x m o) [] T' H') : WL kt CB SB X 994 (wlL i x m o) [] T H := by
  obtain ⟨⟨hW, g0, gx, gm, go, hK, hr⟩, hXI, hY1, hY2⟩ := hI
  refine wl_of hX hb cL_994 (rw_aload_n (pc' := 995) (v := .ref x) rfl rfl rfl ?_)
  refine wl_of hX hb cL_995 (rw_aload_n (pc' := 996) (v := .ref 0) rfl rfl rfl ?_)
  refine wl_of hX hb cL_996 (rw_iload (pc' := 998) (z := i) rfl rfl ?_)
  refine wl_of hX hb cL_998 (rw_iconst (pc' := 999) rfl ?_)
  refine wl_of hX hb cL_999 (rw_iadd (pc' := 1000) rfl ?_)
  refine wl_of hX hb cL_1000 (xa_I (so := 0) (pc' := 1001) (a := 0) hW g0 (wsh_s _) (by omega) (wty_s _ _) (by omega) (by omega) rfl (fun b4038 b4039 => ?_))
  obtain ⟨B, tc, tm, cu, dr, C8, e8, d8, n8, g8, ce8, e0, gtc, htc, em, gtm, htm, ecu, gcu, edr, gdr, hcu, hdr, hdec, hded, hsp, hC1, hC2, hcu8, hrb8, hcg8, hmn8, hE, hZ, hn8, hXA, hV8, hSG, ece8, gce8, hcen8, hhdr8, hknn8, -⟩ := hXI
  have hN3 := RB_n3 hrb8
  have hE13 : ∀ h : Nat, h < 24 → 0 ≤ e8 13 h ∧ e8 13 h ≤ 100 := fun k hk => by
    obtain ⟨s, h1, h2, h3⟩ := hcu8.1.2.2.1
    exact ⟨(h3 k hk).1, (h3 k hk).2.1⟩
  have hXW := hXA.1
  have hXN := hXA.2
  have hE0 : e8 0 3 = d8 0 3 ∧ e8 0 0 = d8 0 0 := by
    have h := hE 0 (by decide)
    exact ⟨congrFun h 3, congrFun h 0⟩
  have u4040 := CU_k hcu8
  have h4041 : CY T H cu (d8 0 3) g8 (H cu 17) := ⟨hcg8, rfl⟩
  have h4042 : RY T H m (d8 0 3) g8 (H m 32) := ⟨hmn8, rfl⟩
  obtain ⟨t9, ht9⟩ : ∃ t : Int, t = H x 9 := ⟨_, rfl⟩
  obtain ⟨y9, hy9⟩ : ∃ y : Int, y = H 0 ((i + 1).toNat) := ⟨_, rfl⟩
  obtain ⟨r4043, q4044, g4045⟩ := hW.ref gx (t' := 6) (n := 13) (j := 2) (p := 0) (q := 0) rfl (by decide) rfl
  refine wl_of hX hb cL_1001 (xc_V (pc' := 1004) (r := x) (as := [vI (H 0 ((i + 1).toNat))]) (st := []) (lm_11_130) rfl rfl (Nat.le_of_ble_eq_true rfl) hW gx sh_1 (by decide) rfl (by decide) (u_112 (e := e8) (d := d8) (n := n8) hW gx ⟨by omega, by omega⟩ ecu gcu q4044 g4045 ece8 gce8 (by assumption) (by assumption) (by omega) (by omega) (by omega) (by omega) hcu8 hcen8 hhdr8) (fun R4046 T4047 H4048 p4049 => ?_))
  obtain ⟨e4050, w4052, f4053, z4054, e4051, b4055, p4056⟩ := p4049
  subst e4050
  subst e4051
  show WL _ _ _ _ 1004 [(4, vI i), (3, .ref o), (2, .ref m), (1, .ref x), (0, .ref 0)] [vL z4054] _ H4048
  refine wl_of hX hb cL_1004 (rw_pop2 (pc' := 1005) rfl rfl ?_)
  refine wl_of hX hb cL_1005 (rw_aload_n (pc' := 1006) (v := .ref m) rfl rfl rfl ?_)
  refine wl_of hX hb cL_1006 (rw_aload_n (pc' := 1007) (v := .ref 0) rfl rfl rfl ?_)
  refine wl_of hX hb cL_1007 (rw_iload (pc' := 1009) (z := i) rfl rfl ?_)
  refine wl_of hX hb cL_1009 (rw_iconst (pc' := 1010) rfl ?_)
  refine wl_of hX hb cL_1010 (rw_iadd (pc' := 1011) rfl ?_)
  have k4060 : H4048 0 ((i + 1).toNat) = H 0 ((i + 1).toNat) := (f4053 0 ((i + 1).toNat) _ g0 (wmem_s rfl))
  refine wl_of hX hb cL_1011 (xa_I (so := 0) (pc' := 1012) (a := 0) w4052 g0 (wsh_s _) (by omega) (wty_s _ _) (by omega) (by omega) rfl (fun b4058 b4059 => ?_))
  have k4061 : wKI H4048 m = wKI H m := (wKI_fr hW gm f4053 rfl)
  have k4062 : H4048 x 9 = H x 9 := (f4053 x 9 _ gx rfl)
  have k4063 : H4048 m 6 = H m 6 := (f4053 m 6 _ gm rfl)
  have k4064 : H4048 x 11 = H x 11 := (f4053 x 11 _ gx rfl)
  have k4065 : H4048 m 13 = H m 13 := (f4053 m 13 _ gm rfl)
  have k4066 : H4048 x 8 = H x 8 := (f4053 x 8 _ gx rfl)
  have k4067 : H4048 m 3 = H m 3 := (f4053 m 3 _ gm rfl)
  rw [show H4048 0 ((i + 1).toNat) = H 0 ((i + 1).toNat) by omega]
  have h4068 : RB T H4048 m e8 d8 := (RB_fr hW gm f4053 rfl hrb8)
  have h4069 : KNN T H4048 m e8 d8 := (KNN_fr hW gm f4053 rfl hknn8)
  refine wl_of hX hb cL_1012 (xc_V (pc' := 1015) (r := m) (as := [vI (H 0 ((i + 1).toNat))]) (st := []) (lm_11_134) rfl rfl (Nat.le_of_ble_eq_true rfl) w4052 gm sh_42 (by decide) rfl (by decide) (u_260 (e := e8) (d := d8) w4052 gm ⟨by omega, by omega⟩ (by omega) (by assumption) (by assumption) (by assumption) (by assumption) h4068 h4069) (fun R4070 T4071 H4072 p4073 => ?_))
  obtain ⟨e4074, w4076, f4077, z4078, e4075, b4079, p4080⟩ := p4073
  subst e4074
  subst e4075
  obtain ⟨a4081, a4082⟩ := p4080
  show WL _ _ _ _ 1015 [(4, vI i), (3, .ref o), (2, .ref m), (1, .ref x), (0, .ref 0)] [vL z4078] _ H4072
  refine wl_of hX hb cL_1015 (rw_pop2 (pc' := 1016) rfl rfl ?_)
  refine wl_of hX hb cL_1016 (rw_goto (p1 := 1653) (by decide) ?_)
  have k4083 : H4072 x 9 = H4048 x 9 := (f4077 x 9 _ gx rfl)
  have k4084 : H4072 m 6 = H4048 m 6 := (f4077 m 6 _ gm rfl)
  have k4085 : H4072 x 11 = H4048 x 11 := (f4077 x 11 _ gx rfl)
  have k4086 : H4072 m 13 = H4048 m 13 := (f4077 m 13 _ gm rfl)
  have k4087 : H4072 x 8 = H4048 x 8 := (f4077 x 8 _ gx rfl)
  have k4088 : H4072 m 3 = H4048 m 3 := (f4077 m 3 _ gm rfl)
  have k4089 : H4072 x 0 = H x 0 := ((f4077 x 0 _ gx rfl).trans (f4053 x 0 _ gx rfl))
  have q4090 : H4072 x 0 = (tc : Int) := k4089.trans e0
  have k4091 : H4072 m 5 = H m 5 := ((f4077 m 5 _ gm rfl).trans (f4053 m 5 _ gm rfl))
  have q4092 : H4072 m 5 = (tm : Int) := k4091.trans em
  have k4093 : H4072 x 6 = H x 6 := ((f4077 x 6 _ gx rfl).trans (f4053 x 6 _ gx rfl))
  have q4094 : H4072 x 6 = (cu : Int) := k4093.trans ecu
  have k4095 : H4072 x 7 = H x 7 := ((f4077 x 7 _ gx rfl).trans (f4053 x 7 _ gx rfl))
  have q4096 : H4072 x 7 = (dr : Int) := k4095.trans edr
  have h4097 : CEN T H4072 ce8 e8 d8 := (CEN_fr w4052 gce8 f4077 rfl p4056)
  have h4098 : TP T H4072 tc B := (TP_fr w4052 gtc f4077 rfl (TP_fr hW gtc f4053 rfl htc))
  have h4099 : TM T H4072 tm B := (TM_fr w4052 gtm f4077 rfl (TM_fr hW gtm f4053 rfl htm))
  have h4100 : DD T H4072 cu  := (DD_fr w4052 gcu f4077 rfl (DD_fr hW gcu f4053 rfl hcu))
  have h4101 : DD T H4072 dr  := (DD_fr w4052 gdr f4077 rfl (DD_fr hW gdr f4053 rfl hdr))
  have h4102 : DE T H4072 cu  := (DE_fr w4052 gcu f4077 rfl (DE_fr hW gcu f4053 rfl hdec))
  have h4103 : DE T H4072 dr  := (DE_fr w4052 gdr f4077 rfl (DE_fr hW gdr f4053 rfl hded))
  have h4104 : SP T H4072 x C8 := (SP_fr w4052 gx f4077 rfl (SP_fr hW gx f4053 rfl hsp))
  have h4105 : CU T H4072 cu e8 d8 n8 := (CU_fr w4052 gcu f4077 rfl (CU_fr hW gcu f4053 rfl hcu8))
  have h4106 : CY T H4072 cu (d8 0 3) g8 (H cu 17) := (CY_fr w4052 gcu f4077 rfl (CY_fr hW gcu f4053 rfl h4041))
  have k4107 : H4072 x 3 = H x 3 := ((f4077 x 3 _ gx rfl).trans (f4053 x 3 _ gx rfl))
  have q4108 : H4072 x 3 = (ce8 : Int) := k4107.trans ece8
  have h4109 : HDR T H4072 ce8  := (HDR_fr w4052 gce8 f4077 rfl (HDR_fr hW gce8 f4053 rfl hhdr8))
  have h4110 : RY T H4072 m (d8 0 3) g8 (H m 32) := (RY_fr w4052 gm f4077 rfl (RY_fr hW gm f4053 rfl h4042))
  have h4111 : RB T H4072 m e8 d8 := (RB_fr w4052 gm f4077 rfl h4068)
  exact WL.loc hX (by simp) (next T H4072 ⟨⟨w4076, g0, gx, gm, go, by omega, by omega⟩, ⟨_, tc, tm, cu, dr, _, _, _, _, _, ce8, q4090, gtc, h4098, q4092, gtm, h4099, q4094, gcu, q4096, gdr, h4100, h4101, h4102, h4103, h4104, hC1, hC2, h4105, h4111, (h4106).1, (h4110).1, hE, hZ, (by omega), (by assumption), (by omega), (by first | assumption | exact SG_0), q4108, gce8, h4097, h4109, a4082, gm⟩, by omega, by omega⟩ (by omega) (by omega))
set_option maxHeartbeats 4000000 in
theorem wl_c27 {kt : Nat → Option mc_E} {CB SB : Nat} {X : mc_S → Prop} {T : wq_T} {H : wq_H} {Len x m o : Nat} {i : Int} (hX : wlX kt CB SB X) (hb : T.2.1 ≤ CB ∧ T.2.2.1 ≤ SB) (hI : wlJ Len x m o T H) (hL : Len ≤ 3072) (hi : 0 ≤ i ∧ i + 6 ≤ Len) (hb2 : T.2.1 + 20 ≤ CB ∧ T.2.2.1 + 500 ≤ SB)  (next : ∀ T' H', wlJ Len x m o T' H' → T'.2.1 ≤ T.2.1 + 20 → T'.2.2.1 ≤ T.2.2.1 + 500 → WL kt CB SB X 1653 (wlL i x m o) [] T' H') : WL kt CB SB X 1019 (wlL i x m o) [] T H := by
  obtain ⟨⟨hW, g0, gx, gm, go, hK, hr⟩, hXI, hY1, hY2⟩ := hI
  refine wl_of hX hb cL_1019 (rw_aload_n (pc' := 1020) (v := .ref x) rfl rfl rfl ?_)
  refine wl_of hX hb cL_1020 (rw_aload_n (pc' := 1021) (v := .ref 0) rfl rfl rfl ?_)
  refine wl_of hX hb cL_1021 (rw_iload (pc' := 1023) (z := i) rfl rfl ?_)
  refine wl_of hX hb cL_1023 (rw_iconst (pc' := 1024) rfl ?_)
  refine wl_of hX hb cL_1024 (rw_iadd (pc' := 1025) rfl ?_)
  refine wl_of hX hb cL_1025 (xa_I (so := 0) (pc' := 1026) (a := 0) hW g0 (wsh_s _) (by omega) (wty_s _ _) (by omega) (by omega) rfl (fun b4112 b4113 => ?_))
  refine wl_of hX hb cL_1026 (rw_aload_n (pc' := 1027) (v := .ref 0) rfl rfl rfl ?_)
  refine wl_of hX hb cL_1027 (rw_iload (pc' := 1029) (z := i) rfl rfl ?_)
  refine wl_of hX hb cL_1029 (rw_iconst (pc' := 1030) rfl ?_)
  refine wl_of hX hb cL_1030 (rw_iadd (pc' := 1031) rfl ?_)
  refine wl_of hX hb cL_1031 (xa_I (so := 0) (pc' := 1032) (a := 0) hW g0 (wsh_s _) (by omega) (wty_s _ _) (by omega) (by omega) rfl (fun b4114 b4115 => ?_))
  obtain ⟨B, tc, tm, cu, dr, C8, e8, d8, n8, g8, ce8, e0, gtc, htc, em, gtm, htm, ecu, gcu, edr, gdr, hcu, hdr, hdec, hded, hsp, hC1, hC2, hcu8, hrb8, hcg8, hmn8, hE, hZ, hn8, hXA, hV8, hSG, ece8, gce8, hcen8, hhdr8, hknn8, -⟩ := hXI
  have hN3 := RB_n3 hrb8
  have hE13 : ∀ h : Nat, h < 24 → 0 ≤ e8 13 h ∧ e8 13 h ≤ 100 := fun k hk => by
    obtain ⟨s, h1, h2, h3⟩ := hcu8.1.2.2.1
    exact ⟨(h3 k hk).1, (h3 k hk).2.1⟩
  have hXW := hXA.1
  have hXN := hXA.2
  have hE0 : e8 0 3 = d8 0 3 ∧ e8 0 0 = d8 0 0 := by
    have h := hE 0 (by decide)
    exact ⟨congrFun h 3, congrFun h 0⟩
  have u4116 := CU_k hcu8
  have h4117 : CY T H cu (d8 0 3) g8 (H cu 17) := ⟨hcg8, rfl⟩
  have h4118 : RY T H m (d8 0 3) g8 (H m 32) := ⟨hmn8, rfl⟩
  obtain ⟨t9, ht9⟩ : ∃ t : Int, t = H x 9 := ⟨_, rfl⟩
  obtain ⟨y9, hy9⟩ : ∃ y : Int, y = H 0 ((i + 2).toNat) := ⟨_, rfl⟩
  obtain ⟨r4119, q4120, g4121⟩ := hW.ref gx (t' := 6) (n := 13) (j := 2) (p := 0) (q := 0) rfl (by decide) rfl
  refine wl_of hX hb cL_1032 (xc_V (pc' := 1035) (r := x) (as := [vI (H 0 ((i + 1).toNat)), vI (H 0 ((i + 2).toNat))]) (st := []) (lm_11_135) rfl rfl (Nat.le_of_ble_eq_true rfl) hW gx sh_1 (by decide) rfl (by decide) (u_114 (e := e8) (d := d8) (n := n8) hW gx ⟨by omega, by omega⟩ ⟨by omega, by omega⟩ ecu gcu q4120 g4121 ece8 gce8 (by assumption) (by assumption) (by omega) (by omega) (by omega) (by omega) hcu8 hcen8 hhdr8) (fun R4122 T4123 H4124 p4125 => ?_))
  obtain ⟨e4126, w4128, f4129, z4130, e4127, b4131, p4132⟩ := p4125
  subst e4126
  subst e4127
  show WL _ _ _ _ 1035 [(4, vI i), (3, .ref o), (2, .ref m), (1, .ref x), (0, .ref 0)] [vI z4130] _ H4124
  refine wl_of hX hb cL_1035 (rw_pop (pc' := 1036) rfl rfl ?_)
  refine wl_of hX hb cL_1036 (rw_aload_n (pc' := 1037) (v := .ref m) rfl rfl rfl ?_)
  refine wl_of hX hb cL_1037 (rw_aload_n (pc' := 1038) (v := .ref 0) rfl rfl rfl ?_)
  refine wl_of hX hb cL_1038 (rw_iload (pc' := 1040) (z := i) rfl rfl ?_)
  refine wl_of hX hb cL_1040 (rw_iconst (pc' := 1041) rfl ?_)
  refine wl_of hX hb cL_1041 (rw_iadd (pc' := 1042) rfl ?_)
  have k4136 : H4124 0 ((i + 1).toNat) = H 0 ((i + 1).toNat) := (f4129 0 ((i + 1).toNat) _ g0 (wmem_s rfl))
  refine wl_of hX hb cL_1042 (xa_I (so := 0) (pc' := 1043) (a := 0) w4128 g0 (wsh_s _) (by omega) (wty_s _ _) (by omega) (by omega) rfl (fun b4134 b4135 => ?_))
  refine wl_of hX hb cL_1043 (rw_aload_n (pc' := 1044) (v := .ref 0) rfl rfl rfl ?_)
  refine wl_of hX hb cL_1044 (rw_iload (pc' := 1046) (z := i) rfl rfl ?_)
  refine wl_of hX hb cL_1046 (rw_iconst (pc' := 1047) rfl ?_)
  refine wl_of hX hb cL_1047 (rw_iadd (pc' := 1048) rfl ?_)
  have k4139 : H4124 0 ((i + 2).toNat) = H 0 ((i + 2).toNat) := (f4129 0 ((i + 2).toNat) _ g0 (wmem_s rfl))
  refine wl_of hX hb cL_1048 (xa_I (so := 0) (pc' := 1049) (a := 0) w4128 g0 (wsh_s _) (by omega) (wty_s _ _) (by omega) (by omega) rfl (fun b4137 b4138 => ?_))
  have k4140 : wKI H4124 m = wKI H m := (wKI_fr hW gm f4129 rfl)
  have k4141 : H4124 x 9 = H x 9 := (f4129 x 9 _ gx rfl)
  have k4142 : H4124 m 6 = H m 6 := (f4129 m 6 _ gm rfl)
  have k4143 : H4124 x 11 = H x 11 := (f4129 x 11 _ gx rfl)
  have k4144 : H4124 m 13 = H m 13 := (f4129 m 13 _ gm rfl)
  have k4145 : H4124 x 8 = H x 8 := (f4129 x 8 _ gx rfl)
  have k4146 : H4124 m 3 = H m 3 := (f4129 m 3 _ gm rfl)
  rw [show H4124 0 ((i + 2).toNat) = H 0 ((i + 2).toNat) by omega]
  rw [show H4124 0 ((i + 1).toNat) = H 0 ((i + 1).toNat) by omega]
  have h4147 : RB T H4124 m e8 d8 := (RB_fr hW gm f4129 rfl hrb8)
  have h4148 : KNN T H4124 m e8 d8 := (KNN_fr hW gm f4129 rfl hknn8)
  refine wl_of hX hb cL_1049 (xc_V (pc' := 1052) (r := m) (as := [vI (H 0 ((i + 1).toNat)), vI (H 0 ((i + 2).toNat))]) (st := []) (lm_11_138) rfl rfl (Nat.le_of_ble_eq_true rfl) w4128 gm sh_42 (by decide) rfl (by decide) (u_261 (e := e8) (d := d8) w4128 gm ⟨by omega, by omega⟩ ⟨by omega, by omega⟩ (by omega) (by assumption) (by assumption) (by assumption) (by assumption) h4147 h4148) (fun R4149 T4150 H4151 p4152 => ?_))
  obtain ⟨e4153, w4155, f4156, z4157, e4154, b4158, p4159⟩ := p4152
  subst e4153
  subst e4154
  obtain ⟨a4160, a4161⟩ := p4159
  show WL _ _ _ _ 1052 [(4, vI i), (3, .ref o), (2, .ref m), (1, .ref x), (0, .ref 0)] [vI z4157] _ H4151
  refine wl_of hX hb cL_1052 (rw_pop (pc' := 1053) rfl rfl ?_)
  refine wl_of hX hb cL_1053 (rw_goto (p1 := 1653) (by decide) ?_)
  have k4162 : H4151 x 9 = H4124 x 9 := (f4156 x 9 _ gx rfl)
  have k4163 : H4151 m 6 = H4124 m 6 := (f4156 m 6 _ gm rfl)
  have k4164 : H4151 x 11 = H4124 x 11 := (f4156 x 11 _ gx rfl)
  have k4165 : H4151 m 13 = H4124 m 13 := (f4156 m 13 _ gm rfl)
  have k4166 : H4151 x 8 = H4124 x 8 := (f4156 x 8 _ gx rfl)
  have k4167 : H4151 m 3 = H4124 m 3 := (f4156 m 3 _ gm rfl)
  have k4168 : H4151 x 0 = H x 0 := ((f4156 x 0 _ gx rfl).trans (f4129 x 0 _ gx rfl))
  have q4169 : H4151 x 0 = (tc : Int) := k4168.trans e0
  have k4170 : H4151 m 5 = H m 5 := ((f4156 m 5 _ gm rfl).trans (f4129 m 5 _ gm rfl))
  have q4171 : H4151 m 5 = (tm : Int) := k4170.trans em
  have k4172 : H4151 x 6 = H x 6 := ((f4156 x 6 _ gx rfl).trans (f4129 x 6 _ gx rfl))
  have q4173 : H4151 x 6 = (cu : Int) := k4172.trans ecu
  have k4174 : H4151 x 7 = H x 7 := ((f4156 x 7 _ gx rfl).trans (f4129 x 7 _ gx rfl))
  have q4175 : H4151 x 7 = (dr : Int) := k4174.trans edr
  have h4176 : CEN T H4151 ce8 e8 d8 := (CEN_fr w4128 gce8 f4156 rfl p4132)
  have h4177 : TP T H4151 tc B := (TP_fr w4128 gtc f4156 rfl (TP_fr hW gtc f4129 rfl htc))
  have h4178 : TM T H4151 tm B := (TM_fr w4128 gtm f4156 rfl (TM_fr hW gtm f4129 rfl htm))
  have h4179 : DD T H4151 cu  := (DD_fr w4128 gcu f4156 rfl (DD_fr hW gcu f4129 rfl hcu))
  have h4180 : DD T H4151 dr  := (DD_fr w4128 gdr f4156 rfl (DD_fr hW gdr f4129 rfl hdr))
  have h4181 : DE T H4151 cu  := (DE_fr w4128 gcu f4156 rfl (DE_fr hW gcu f4129 rfl hdec))
  have h4182 : DE T H4151 dr  := (DE_fr w4128 gdr f4156 rfl (DE_fr hW gdr f4129 rfl hded))
  have h4183 : SP T H4151 x C8 := (SP_fr w4128 gx f4156 rfl (SP_fr hW gx f4129 rfl hsp))
  have h4184 : CU T H4151 cu e8 d8 n8 := (CU_fr w4128 gcu f4156 rfl (CU_fr hW gcu f4129 rfl hcu8))
  have h4185 : CY T H4151 cu (d8 0 3) g8 (H cu 17) := (CY_fr w4128 gcu f4156 rfl (CY_fr hW gcu f4129 rfl h4117))
  have k4186 : H4151 x 3 = H x 3 := ((f4156 x 3 _ gx rfl).trans (f4129 x 3 _ gx rfl))
  have q4187 : H4151 x 3 = (ce8 : Int) := k4186.trans ece8
  have h4188 : HDR T H4151 ce8  := (HDR_fr w4128 gce8 f4156 rfl (HDR_fr hW gce8 f4129 rfl hhdr8))
  have h4189 : RY T H4151 m (d8 0 3) g8 (H m 32) := (RY_fr w4128 gm f4156 rfl (RY_fr hW gm f4129 rfl h4118))
  have h4190 : RB T H4151 m e8 d8 := (RB_fr w4128 gm f4156 rfl h4147)
  exact WL.loc hX (by simp) (next T H4151 ⟨⟨w4155, g0, gx, gm, go, by omega, by omega⟩, ⟨_, tc, tm, cu, dr, _, _, _, _, _, ce8, q4169, gtc, h4177, q4171, gtm, h4178, q4173, gcu, q4175, gdr, h4179, h4180, h4181, h4182, h4183, hC1, hC2, h4184, h4190, (h4185).1, (h4189).1, hE, hZ, (by omega), (by assumption), (by omega), (by first | assumption | exact SG_0), q4187, gce8, h4176, h4188, a4161, gm⟩, by omega, by omega⟩ (by omega) (by omega))
set_option maxHeartbeats 4000000 in
theorem wl_c28 {kt : Nat → Option mc_E} {CB SB : Nat} {X : mc_S → Prop} {T : wq_T} {H : wq_H} {Len x m o : Nat} {i : Int} (hX : wlX kt CB SB X) (hb : T.2.1 ≤ CB ∧ T.2.2.1 ≤ SB) (hI : wlJ Len x m o T H) (hL : Len ≤ 3072) (hi : 0 ≤ i ∧ i + 6 ≤ Len) (hb2 : T.2.1 + 20 ≤ CB ∧ T.2.2.1 + 500 ≤ SB)  (next : ∀ T' H', wlJ Len x m o T' H' → T'.2.1 ≤ T.2.1 + 20 → T'.2.2.1 ≤ T.2.2.1 + 500 → WL kt CB SB X 1653 (wlL i x m o) [] T' H') : WL kt CB SB X 1056 (wlL i x m o) [] T H := by
  obtain ⟨⟨hW, g0, gx, gm, go, hK, hr⟩, hXI, hY1, hY2⟩ := hI
  refine wl_of hX hb cL_1056 (rw_aload_n (pc' := 1057) (v := .ref x) rfl rfl rfl ?_)
  refine wl_of hX hb cL_1057 (rw_aload_n (pc' := 1058) (v := .ref 0) rfl rfl rfl ?_)
  refine wl_of hX hb cL_1058 (rw_iload (pc' := 1060) (z := i) rfl rfl ?_)
  refine wl_of hX hb cL_1060 (rw_iconst (pc' := 1061) rfl ?_)
  refine wl_of hX hb cL_1061 (rw_iadd (pc' := 1062) rfl ?_)
  refine wl_of hX hb cL_1062 (xa_I (so := 0) (pc' := 1063) (a := 0) hW g0 (wsh_s _) (by omega) (wty_s _ _) (by omega) (by omega) rfl (fun b4191 b4192 => ?_))
  refine wl_of hX hb cL_1063 (rw_aload_n (pc' := 1064) (v := .ref 0) rfl rfl rfl ?_)
  refine wl_of hX hb cL_1064 (rw_iload (pc' := 1066) (z := i) rfl rfl ?_)
  refine wl_of hX hb cL_1066 (rw_iconst (pc' := 1067) rfl ?_)
  refine wl_of hX hb cL_1067 (rw_iadd (pc' := 1068) rfl ?_)
  refine wl_of hX hb cL_1068 (xa_I (so := 0) (pc' := 1069) (a := 0) hW g0 (wsh_s _) (by omega) (wty_s _ _) (by omega) (by omega) rfl (fun b4193 b4194 => ?_))
  refine wl_of hX hb cL_1069 (rw_if_eq (p1 := 1076) (p2 := 1072) (by decide) rfl ⟨by omega, by omega⟩ (fun c4195 => ?_) (fun c4195 => ?_))
  · refine wl_of hX hb cL_1076 (rw_iconst (pc' := 1077) rfl ?_)
    obtain ⟨B, tc, tm, cu, dr, C8, e8, d8, n8, g8, ce8, e0, gtc, htc, em, gtm, htm, ecu, gcu, edr, gdr, hcu, hdr, hdec, hded, hsp, hC1, hC2, hcu8, hrb8, hcg8, hmn8, hE, hZ, hn8, hXA, hV8, hSG, ece8, gce8, hcen8, hhdr8, hknn8, -⟩ := hXI
    have hN3 := RB_n3 hrb8
    have hE13 : ∀ h : Nat, h < 24 → 0 ≤ e8 13 h ∧ e8 13 h ≤ 100 := fun k hk => by
      obtain ⟨s, h1, h2, h3⟩ := hcu8.1.2.2.1
      exact ⟨(h3 k hk).1, (h3 k hk).2.1⟩
    have hXW := hXA.1
    have hXN := hXA.2
    have hE0 : e8 0 3 = d8 0 3 ∧ e8 0 0 = d8 0 0 := by
      have h := hE 0 (by decide)
      exact ⟨congrFun h 3, congrFun h 0⟩
    have u4196 := CU_k hcu8
    have h4197 : CY T H cu (d8 0 3) g8 (H cu 17) := ⟨hcg8, rfl⟩
    have h4198 : RY T H m (d8 0 3) g8 (H m 32) := ⟨hmn8, rfl⟩
    obtain ⟨t9, ht9⟩ : ∃ t : Int, t = H x 9 := ⟨_, rfl⟩
    obtain ⟨y9, hy9⟩ : ∃ y : Int, y = 0 := ⟨_, rfl⟩
    obtain ⟨r4199, q4200, g4201⟩ := hW.ref gx (t' := 6) (n := 13) (j := 2) (p := 0) (q := 0) rfl (by decide) rfl
    refine wl_of hX hb cL_1077 (xc_V (pc' := 1080) (r := x) (as := [vI (H 0 ((i + 1).toNat)), vI 0]) (st := []) (lm_11_139) rfl rfl (Nat.le_of_ble_eq_true rfl) hW gx sh_1 (by decide) rfl (by decide) (u_117 (e := e8) (d := d8) (n := n8) hW gx ⟨by omega, by omega⟩ ⟨by decide, by decide⟩ ecu gcu q4200 g4201 ece8 gce8 (by assumption) (by assumption) (by omega) (by omega) (by omega) (by omega) hcu8 hcen8 hhdr8) (fun R4202 T4203 H4204 p4205 => ?_))
    obtain ⟨e4206, w4208, f4209, z4210, e4207, b4211, p4212⟩ := p4205
    subst e4206
    subst e4207
    show WL _ _ _ _ 1080 [(4, vI i), (3, .ref o), (2, .ref m), (1, .ref x), (0, .ref 0)] [vI z4210] _ H4204
    refine wl_of hX hb cL_1080 (rw_pop (pc' := 1081) rfl rfl ?_)
    refine wl_of hX hb cL_1081 (rw_aload_n (pc' := 1082) (v := .ref m) rfl rfl rfl ?_)
    refine wl_of hX hb cL_1082 (rw_aload_n (pc' := 1083) (v := .ref 0) rfl rfl rfl ?_)
    refine wl_of hX hb cL_1083 (rw_iload (pc' := 1085) (z := i) rfl rfl ?_)
    refine wl_of hX hb cL_1085 (rw_iconst (pc' := 1086) rfl ?_)
    refine wl_of hX hb cL_1086 (rw_iadd (pc' := 1087) rfl ?_)
    have k4216 : H4204 0 ((i + 1).toNat) = H 0 ((i + 1).toNat) := (f4209 0 ((i + 1).toNat) _ g0 (wmem_s rfl))
    refine wl_of hX hb cL_1087 (xa_I (so := 0) (pc' := 1088) (a := 0) w4208 g0 (wsh_s _) (by omega) (wty_s _ _) (by omega) (by omega) rfl (fun b4214 b4215 => ?_))
    refine wl_of hX hb cL_1088 (rw_aload_n (pc' := 1089) (v := .ref 0) rfl rfl rfl ?_)
    refine wl_of hX hb cL_1089 (rw_iload (pc' := 1091) (z := i) rfl rfl ?_)
    refine wl_of hX hb cL_1091 (rw_iconst (pc' := 1092) rfl ?_)
    refine wl_of hX hb cL_1092 (rw_iadd (pc' := 1093) rfl ?_)
    have k4219 : H4204 0 ((i + 2).toNat) = H 0 ((i + 2).toNat) := (f4209 0 ((i + 2).toNat) _ g0 (wmem_s rfl))
    refine wl_of hX hb cL_1093 (xa_I (so := 0) (pc' := 1094) (a := 0) w4208 g0 (wsh_s _) (by omega) (wty_s _ _) (by omega) (by omega) rfl (fun b4217 b4218 => ?_))
    refine wl_of hX hb cL_1094 (rw_if_eq (p1 := 1101) (p2 := 1097) (by decide) rfl ⟨by omega, by omega⟩ (fun c4220 => ?_) (fun c4220 => ?_))
    · refine wl_of hX hb cL_1101 (rw_iconst (pc' := 1102) rfl ?_)
      have k4221 : wKI H4204 m = wKI H m := (wKI_fr hW gm f4209 rfl)
      have k4222 : H4204 x 9 = H x 9 := (f4209 x 9 _ gx rfl)
      have k4223 : H4204 m 6 = H m 6 := (f4209 m 6 _ gm rfl)
      have k4224 : H4204 x 11 = H x 11 := (f4209 x 11 _ gx rfl)
      have k4225 : H4204 m 13 = H m 13 := (f4209 m 13 _ gm rfl)
      have k4226 : H4204 x 8 = H x 8 := (f4209 x 8 _ gx rfl)
      have k4227 : H4204 m 3 = H m 3 := (f4209 m 3 _ gm rfl)
      rw [show H4204 0 ((i + 1).toNat) = H 0 ((i + 1).toNat) by omega]
      have h4228 : RB T H4204 m e8 d8 := (RB_fr hW gm f4209 rfl hrb8)
      have h4229 : KNN T H4204 m e8 d8 := (KNN_fr hW gm f4209 rfl hknn8)
      refine wl_of hX hb cL_1102 (xc_V (pc' := 1105) (r := m) (as := [vI (H 0 ((i + 1).toNat)), vI 0]) (st := []) (lm_11_142) rfl rfl (Nat.le_of_ble_eq_true rfl) w4208 gm sh_42 (by decide) rfl (by decide) (u_263 (e := e8) (d := d8) w4208 gm ⟨by omega, by omega⟩ ⟨by decide, by decide⟩ (by omega) (by assumption) (by assumption) (by assumption) (by assumption) h4228 h4229) (fun R4230 T4231 H4232 p4233 => ?_))
      obtain ⟨e4234, w4236, f4237, z4238, e4235, b4239, p4240⟩ := p4233
      subst e4234
      subst e4235
      obtain ⟨a4241, a4242⟩ := p4240
      show WL _ _ _ _ 1105 [(4, vI i), (3, .ref o), (2, .ref m), (1, .ref x), (0, .ref 0)] [vI z4238] _ H4232
      refine wl_of hX hb cL_1105 (rw_pop (pc' := 1106) rfl rfl ?_)
      refine wl_of hX hb cL_1106 (rw_goto (p1 := 1653) (by decide) ?_)
      have k4243 : H4232 x 9 = H4204 x 9 := (f4237 x 9 _ gx rfl)
      have k4244 : H4232 m 6 = H4204 m 6 := (f4237 m 6 _ gm rfl)
      have k4245 : H4232 x 11 = H4204 x 11 := (f4237 x 11 _ gx rfl)
      have k4246 : H4232 m 13 = H4204 m 13 := (f4237 m 13 _ gm rfl)
      have k4247 : H4232 x 8 = H4204 x 8 := (f4237 x 8 _ gx rfl)
      have k4248 : H4232 m 3 = H4204 m 3 := (f4237 m 3 _ gm rfl)
      have k4249 : H4232 x 0 = H x 0 := ((f4237 x 0 _ gx rfl).trans (f4209 x 0 _ gx rfl))
      have q4250 : H4232 x 0 = (tc : Int) := k4249.trans e0
      have k4251 : H4232 m 5 = H m 5 := ((f4237 m 5 _ gm rfl).trans (f4209 m 5 _ gm rfl))
      have q4252 : H4232 m 5 = (tm : Int) := k4251.trans em
      have k4253 : H4232 x 6 = H x 6 := ((f4237 x 6 _ gx rfl).trans (f4209 x 6 _ gx rfl))
      have q4254 : H4232 x 6 = (cu : Int) := k4253.trans ecu
      have k4255 : H4232 x 7 = H x 7 := ((f4237 x 7 _ gx rfl).trans (f4209 x 7 _ gx rfl))
      have q4256 : H4232 x 7 = (dr : Int) := k4255.trans edr
      have h4257 : CEN T H4232 ce8 e8 d8 := (CEN_fr w4208 gce8 f4237 rfl p4212)
      have h4258 : TP T H4232 tc B := (TP_fr w4208 gtc f4237 rfl (TP_fr hW gtc f4209 rfl htc))
      have h4259 : TM T H4232 tm B := (TM_fr w4208 gtm f4237 rfl (TM_fr hW gtm f4209 rfl htm))
      have h4260 : DD T H4232 cu  := (DD_fr w4208 gcu f4237 rfl (DD_fr hW gcu f4209 rfl hcu))
      have h4261 : DD T H4232 dr  := (DD_fr w4208 gdr f4237 rfl (DD_fr hW gdr f4209 rfl hdr))
      have h4262 : DE T H4232 cu  := (DE_fr w4208 gcu f4237 rfl (DE_fr hW gcu f4209 rfl hdec))
      have h4263 : DE T H4232 dr  := (DE_fr w4208 gdr f4237 rfl (DE_fr hW gdr f4209 rfl hded))
      have h4264 : SP T H4232 x C8 := (SP_fr w4208 gx f4237 rfl (SP_fr hW gx f4209 rfl hsp))
      have h4265 : CU T H4232 cu e8 d8 n8 := (CU_fr w4208 gcu f4237 rfl (CU_fr hW gcu f4209 rfl hcu8))
      have h4266 : CY T H4232 cu (d8 0 3) g8 (H cu 17) := (CY_fr w4208 gcu f4237 rfl (CY_fr hW gcu f4209 rfl h4197))
      have k4267 : H4232 x 3 = H x 3 := ((f4237 x 3 _ gx rfl).trans (f4209 x 3 _ gx rfl))
      have q4268 : H4232 x 3 = (ce8 : Int) := k4267.trans ece8
      have h4269 : HDR T H4232 ce8  := (HDR_fr w4208 gce8 f4237 rfl (HDR_fr hW gce8 f4209 rfl hhdr8))
      have h4270 : RY T H4232 m (d8 0 3) g8 (H m 32) := (RY_fr w4208 gm f4237 rfl (RY_fr hW gm f4209 rfl h4198))
      have h4271 : RB T H4232 m e8 d8 := (RB_fr w4208 gm f4237 rfl h4228)
      exact WL.loc hX (by simp) (next T H4232 ⟨⟨w4236, g0, gx, gm, go, by omega, by omega⟩, ⟨_, tc, tm, cu, dr, _, _, _, _, _, ce8, q4250, gtc, h4258, q4252, gtm, h4259, q4254, gcu, q4256, gdr, h4260, h4261, h4262, h4263, h4264, hC1, hC2, h4265, h4271, (h4266).1, (h4270).1, hE, hZ, (by omega), (by assumption), (by omega), (by first | assumption | exact SG_0), q4268, gce8, h4257, h4269, a4242, gm⟩, by omega, by omega⟩ (by omega) (by omega))
    · exfalso
      omega
  · refine wl_of hX hb cL_1072 (rw_iconst (pc' := 1073) rfl ?_)
    refine wl_of hX hb cL_1073 (rw_goto (p1 := 1077) (by decide) ?_)
    obtain ⟨B, tc, tm, cu, dr, C8, e8, d8, n8, g8, ce8, e0, gtc, htc, em, gtm, htm, ecu, gcu, edr, gdr, hcu, hdr, hdec, hded, hsp, hC1, hC2, hcu8, hrb8, hcg8, hmn8, hE, hZ, hn8, hXA, hV8, hSG, ece8, gce8, hcen8, hhdr8, hknn8, -⟩ := hXI
    have hN3 := RB_n3 hrb8
    have hE13 : ∀ h : Nat, h < 24 → 0 ≤ e8 13 h ∧ e8 13 h ≤ 100 := fun k hk => by
      obtain ⟨s, h1, h2, h3⟩ := hcu8.1.2.2.1
      exact ⟨(h3 k hk).1, (h3 k hk).2.1⟩
    have hXW := hXA.1
    have hXN := hXA.2
    have hE0 : e8 0 3 = d8 0 3 ∧ e8 0 0 = d8 0 0 := by
      have h := hE 0 (by decide)
      exact ⟨congrFun h 3, congrFun h 0⟩
    have u4272 := CU_k hcu8
    have h4273 : CY T H cu (d8 0 3) g8 (H cu 17) := ⟨hcg8, rfl⟩
    have h4274 : RY T H m (d8 0 3) g8 (H m 32) := ⟨hmn8, rfl⟩
    obtain ⟨t9, ht9⟩ : ∃ t : Int, t = H x 9 := ⟨_, rfl⟩
    obtain ⟨y9, hy9⟩ : ∃ y : Int, y = 1 := ⟨_, rfl⟩
    obtain ⟨r4275, q4276, g4277⟩ := hW.ref gx (t' := 6) (n := 13) (j := 2) (p := 0) (q := 0) rfl (by decide) rfl
    refine wl_of hX hb cL_1077 (xc_V (pc' := 1080) (r := x) (as := [vI (H 0 ((i + 1).toNat)), vI 1]) (st := []) (lm_11_139) rfl rfl (Nat.le_of_ble_eq_true rfl) hW gx sh_1 (by decide) rfl (by decide) (u_117 (e := e8) (d := d8) (n := n8) hW gx ⟨by omega, by omega⟩ ⟨by decide, by decide⟩ ecu gcu q4276 g4277 ece8 gce8 (by assumption) (by assumption) (by omega) (by omega) (by omega) (by omega) hcu8 hcen8 hhdr8) (fun R4278 T4279 H4280 p4281 => ?_))
    obtain ⟨e4282, w4284, f4285, z4286, e4283, b4287, p4288⟩ := p4281
    subst e4282
    subst e4283
    show WL _ _ _ _ 1080 [(4, vI i), (3, .ref o), (2, .ref m), (1, .ref x), (0, .ref 0)] [vI z4286] _ H4280
    refine wl_of hX hb cL_1080 (rw_pop (pc' := 1081) rfl rfl ?_)
    refine wl_of hX hb cL_1081 (rw_aload_n (pc' := 1082) (v := .ref m) rfl rfl rfl ?_)
    refine wl_of hX hb cL_1082 (rw_aload_n (pc' := 1083) (v := .ref 0) rfl rfl rfl ?_)
    refine wl_of hX hb cL_1083 (rw_iload (pc' := 1085) (z := i) rfl rfl ?_)
    refine wl_of hX hb cL_1085 (rw_iconst (pc' := 1086) rfl ?_)
    refine wl_of hX hb cL_1086 (rw_iadd (pc' := 1087) rfl ?_)
    have k4292 : H4280 0 ((i + 1).toNat) = H 0 ((i + 1).toNat) := (f4285 0 ((i + 1).toNat) _ g0 (wmem_s rfl))
    refine wl_of hX hb cL_1087 (xa_I (so := 0) (pc' := 1088) (a := 0) w4284 g0 (wsh_s _) (by omega) (wty_s _ _) (by omega) (by omega) rfl (fun b4290 b4291 => ?_))
    refine wl_of hX hb cL_1088 (rw_aload_n (pc' := 1089) (v := .ref 0) rfl rfl rfl ?_)
    refine wl_of hX hb cL_1089 (rw_iload (pc' := 1091) (z := i) rfl rfl ?_)
    refine wl_of hX hb cL_1091 (rw_iconst (pc' := 1092) rfl ?_)
    refine wl_of hX hb cL_1092 (rw_iadd (pc' := 1093) rfl ?_)
    have k4295 : H4280 0 ((i + 2).toNat) = H 0 ((i + 2).toNat) := (f4285 0 ((i + 2).toNat) _ g0 (wmem_s rfl))
    refine wl_of hX hb cL_1093 (xa_I (so := 0) (pc' := 1094) (a := 0) w4284 g0 (wsh_s _) (by omega) (wty_s _ _) (by omega) (by omega) rfl (fun b4293 b4294 => ?_))
    refine wl_of hX hb cL_1094 (rw_if_eq (p1 := 1101) (p2 := 1097) (by decide) rfl ⟨by omega, by omega⟩ (fun c4296 => ?_) (fun c4296 => ?_))
    · refine wl_of hX hb cL_1101 (rw_iconst (pc' := 1102) rfl ?_)
      have k4297 : wKI H4280 m = wKI H m := (wKI_fr hW gm f4285 rfl)
      have k4298 : H4280 x 9 = H x 9 := (f4285 x 9 _ gx rfl)
      have k4299 : H4280 m 6 = H m 6 := (f4285 m 6 _ gm rfl)
      have k4300 : H4280 x 11 = H x 11 := (f4285 x 11 _ gx rfl)
      have k4301 : H4280 m 13 = H m 13 := (f4285 m 13 _ gm rfl)
      have k4302 : H4280 x 8 = H x 8 := (f4285 x 8 _ gx rfl)
      have k4303 : H4280 m 3 = H m 3 := (f4285 m 3 _ gm rfl)
      rw [show H4280 0 ((i + 1).toNat) = H 0 ((i + 1).toNat) by omega]
      have h4304 : RB T H4280 m e8 d8 := (RB_fr hW gm f4285 rfl hrb8)
      have h4305 : KNN T H4280 m e8 d8 := (KNN_fr hW gm f4285 rfl hknn8)
      refine wl_of hX hb cL_1102 (xc_V (pc' := 1105) (r := m) (as := [vI (H 0 ((i + 1).toNat)), vI 0]) (st := []) (lm_11_142) rfl rfl (Nat.le_of_ble_eq_true rfl) w4284 gm sh_42 (by decide) rfl (by decide) (u_263 (e := e8) (d := d8) w4284 gm ⟨by omega, by omega⟩ ⟨by decide, by decide⟩ (by omega) (by assumption) (by assumption) (by assumption) (by assumption) h4304 h4305) (fun R4306 T4307 H4308 p4309 => ?_))
      obtain ⟨e4310, w4312, f4313, z4314, e4311, b4315, p4316⟩ := p4309
      subst e4310
      subst e4311
      obtain ⟨a4317, a4318⟩ := p4316
      show WL _ _ _ _ 1105 [(4, vI i), (3, .ref o), (2, .ref m), (1, .ref x), (0, .ref 0)] [vI z4314] _ H4308
      refine wl_of hX hb cL_1105 (rw_pop (pc' := 1106) rfl rfl ?_)
      refine wl_of hX hb cL_1106 (rw_goto (p1 := 1653) (by decide) ?_)
      have k4319 : H4308 x 9 = H4280 x 9 := (f4313 x 9 _ gx rfl)
      have k4320 : H4308 m 6 = H4280 m 6 := (f4313 m 6 _ gm rfl)
      have k4321 : H4308 x 11 = H4280 x 11 := (f4313 x 11 _ gx rfl)
      have k4322 : H4308 m 13 = H4280 m 13 := (f4313 m 13 _ gm rfl)
      have k4323 : H4308 x 8 = H4280 x 8 := (f4313 x 8 _ gx rfl)
      have k4324 : H4308 m 3 = H4280 m 3 := (f4313 m 3 _ gm rfl)
      have k4325 : H4308 x 0 = H x 0 := ((f4313 x 0 _ gx rfl).trans (f4285 x 0 _ gx rfl))
      have q4326 : H4308 x 0 = (tc : Int) := k4325.trans e0
      have k4327 : H4308 m 5 = H m 5 := ((f4313 m 5 _ gm rfl).trans (f4285 m 5 _ gm rfl))
      have q4328 : H4308 m 5 = (tm : Int) := k4327.trans em
      have k4329 : H4308 x 6 = H x 6 := ((f4313 x 6 _ gx rfl).trans (f4285 x 6 _ gx rfl))
      have q4330 : H4308 x 6 = (cu : Int) := k4329.trans ecu
      have k4331 : H4308 x 7 = H x 7 := ((f4313 x 7 _ gx rfl).trans (f4285 x 7 _ gx rfl))
      have q4332 : H4308 x 7 = (dr : Int) := k4331.trans edr
      have h4333 : CEN T H4308 ce8 e8 d8 := (CEN_fr w4284 gce8 f4313 rfl p4288)
      have h4334 : TP T H4308 tc B := (TP_fr w4284 gtc f4313 rfl (TP_fr hW gtc f4285 rfl htc))
      have h4335 : TM T H4308 tm B := (TM_fr w4284 gtm f4313 rfl (TM_fr hW gtm f4285 rfl htm))
      have h4336 : DD T H4308 cu  := (DD_fr w4284 gcu f4313 rfl (DD_fr hW gcu f4285 rfl hcu))
      have h4337 : DD T H4308 dr  := (DD_fr w4284 gdr f4313 rfl (DD_fr hW gdr f4285 rfl hdr))
      have h4338 : DE T H4308 cu  := (DE_fr w4284 gcu f4313 rfl (DE_fr hW gcu f4285 rfl hdec))
      have h4339 : DE T H4308 dr  := (DE_fr w4284 gdr f4313 rfl (DE_fr hW gdr f4285 rfl hded))
      have h4340 : SP T H4308 x C8 := (SP_fr w4284 gx f4313 rfl (SP_fr hW gx f4285 rfl hsp))
      have h4341 : CU T H4308 cu e8 d8 n8 := (CU_fr w4284 gcu f4313 rfl (CU_fr hW gcu f4285 rfl hcu8))
      have h4342 : CY T H4308 cu (d8 0 3) g8 (H cu 17) := (CY_fr w4284 gcu f4313 rfl (CY_fr hW gcu f4285 rfl h4273))
      have k4343 : H4308 x 3 = H x 3 := ((f4313 x 3 _ gx rfl).trans (f4285 x 3 _ gx rfl))
      have q4344 : H4308 x 3 = (ce8 : Int) := k4343.trans ece8
      have h4345 : HDR T H4308 ce8  := (HDR_fr w4284 gce8 f4313 rfl (HDR_fr hW gce8 f4285 rfl hhdr8))
      have h4346 : RY T H4308 m (d8 0 3) g8 (H m 32) := (RY_fr w4284 gm f4313 rfl (RY_fr hW gm f4285 rfl h4274))
      have h4347 : RB T H4308 m e8 d8 := (RB_fr w4284 gm f4313 rfl h4304)
      exact WL.loc hX (by simp) (next T H4308 ⟨⟨w4312, g0, gx, gm, go, by omega, by omega⟩, ⟨_, tc, tm, cu, dr, _, _, _, _, _, ce8, q4326, gtc, h4334, q4328, gtm, h4335, q4330, gcu, q4332, gdr, h4336, h4337, h4338, h4339, h4340, hC1, hC2, h4341, h4347, (h4342).1, (h4346).1, hE, hZ, (by omega), (by assumption), (by omega), (by first | assumption | exact SG_0), q4344, gce8, h4333, h4345, a4318, gm⟩, by omega, by omega⟩ (by omega) (by omega))
    · refine wl_of hX hb cL_1097 (rw_iconst (pc' := 1098) rfl ?_)
      refine wl_of hX hb cL_1098 (rw_goto (p1 := 1102) (by decide) ?_)
      have k4348 : wKI H4280 m = wKI H m := (wKI_fr hW gm f4285 rfl)
      have k4349 : H4280 x 9 = H x 9 := (f4285 x 9 _ gx rfl)
      have k4350 : H4280 m 6 = H m 6 := (f4285 m 6 _ gm rfl)
      have k4351 : H4280 x 11 = H x 11 := (f4285 x 11 _ gx rfl)
      have k4352 : H4280 m 13 = H m 13 := (f4285 m 13 _ gm rfl)
      have k4353 : H4280 x 8 = H x 8 := (f4285 x 8 _ gx rfl)
      have k4354 : H4280 m 3 = H m 3 := (f4285 m 3 _ gm rfl)
      rw [show H4280 0 ((i + 1).toNat) = H 0 ((i + 1).toNat) by omega]
      have h4355 : RB T H4280 m e8 d8 := (RB_fr hW gm f4285 rfl hrb8)
      have h4356 : KNN T H4280 m e8 d8 := (KNN_fr hW gm f4285 rfl hknn8)
      refine wl_of hX hb cL_1102 (xc_V (pc' := 1105) (r := m) (as := [vI (H 0 ((i + 1).toNat)), vI 1]) (st := []) (lm_11_142) rfl rfl (Nat.le_of_ble_eq_true rfl) w4284 gm sh_42 (by decide) rfl (by decide) (u_263 (e := e8) (d := d8) w4284 gm ⟨by omega, by omega⟩ ⟨by decide, by decide⟩ (by omega) (by assumption) (by assumption) (by assumption) (by assumption) h4355 h4356) (fun R4357 T4358 H4359 p4360 => ?_))
      obtain ⟨e4361, w4363, f4364, z4365, e4362, b4366, p4367⟩ := p4360
      subst e4361
      subst e4362
      obtain ⟨a4368, a4369⟩ := p4367
      show WL _ _ _ _ 1105 [(4, vI i), (3, .ref o), (2, .ref m), (1, .ref x), (0, .ref 0)] [vI z4365] _ H4359
      refine wl_of hX hb cL_1105 (rw_pop (pc' := 1106) rfl rfl ?_)
      refine wl_of hX hb cL_1106 (rw_goto (p1 := 1653) (by decide) ?_)
      have k4370 : H4359 x 9 = H4280 x 9 := (f4364 x 9 _ gx rfl)
      have k4371 : H4359 m 6 = H4280 m 6 := (f4364 m 6 _ gm rfl)
      have k4372 : H4359 x 11 = H4280 x 11 := (f4364 x 11 _ gx rfl)
      have k4373 : H4359 m 13 = H4280 m 13 := (f4364 m 13 _ gm rfl)
      have k4374 : H4359 x 8 = H4280 x 8 := (f4364 x 8 _ gx rfl)
      have k4375 : H4359 m 3 = H4280 m 3 := (f4364 m 3 _ gm rfl)
      have k4376 : H4359 x 0 = H x 0 := ((f4364 x 0 _ gx rfl).trans (f4285 x 0 _ gx rfl))
      have q4377 : H4359 x 0 = (tc : Int) := k4376.trans e0
      have k4378 : H4359 m 5 = H m 5 := ((f4364 m 5 _ gm rfl).trans (f4285 m 5 _ gm rfl))
      have q4379 : H4359 m 5 = (tm : Int) := k4378.trans em
      have k4380 : H4359 x 6 = H x 6 := ((f4364 x 6 _ gx rfl).trans (f4285 x 6 _ gx rfl))
      have q4381 : H4359 x 6 = (cu : Int) := k4380.trans ecu
      have k4382 : H4359 x 7 = H x 7 := ((f4364 x 7 _ gx rfl).trans (f4285 x 7 _ gx rfl))
      have q4383 : H4359 x 7 = (dr : Int) := k4382.trans edr
      have h4384 : CEN T H4359 ce8 e8 d8 := (CEN_fr w4284 gce8 f4364 rfl p4288)
      have h4385 : TP T H4359 tc B := (TP_fr w4284 gtc f4364 rfl (TP_fr hW gtc f4285 rfl htc))
      have h4386 : TM T H4359 tm B := (TM_fr w4284 gtm f4364 rfl (TM_fr hW gtm f4285 rfl htm))
      have h4387 : DD T H4359 cu  := (DD_fr w4284 gcu f4364 rfl (DD_fr hW gcu f4285 rfl hcu))
      have h4388 : DD T H4359 dr  := (DD_fr w4284 gdr f4364 rfl (DD_fr hW gdr f4285 rfl hdr))
      have h4389 : DE T H4359 cu  := (DE_fr w4284 gcu f4364 rfl (DE_fr hW gcu f4285 rfl hdec))
      have h4390 : DE T H4359 dr  := (DE_fr w4284 gdr f4364 rfl (DE_fr hW gdr f4285 rfl hded))
      have h4391 : SP T H4359 x C8 := (SP_fr w4284 gx f4364 rfl (SP_fr hW gx f4285 rfl hsp))
      have h4392 : CU T H4359 cu e8 d8 n8 := (CU_fr w4284 gcu f4364 rfl (CU_fr hW gcu f4285 rfl hcu8))
      have h4393 : CY T H4359 cu (d8 0 3) g8 (H cu 17) := (CY_fr w4284 gcu f4364 rfl (CY_fr hW gcu f4285 rfl h4273))
      have k4394 : H4359 x 3 = H x 3 := ((f4364 x 3 _ gx rfl).trans (f4285 x 3 _ gx rfl))
      have q4395 : H4359 x 3 = (ce8 : Int) := k4394.trans ece8
      have h4396 : HDR T H4359 ce8  := (HDR_fr w4284 gce8 f4364 rfl (HDR_fr hW gce8 f4285 rfl hhdr8))
      have h4397 : RY T H4359 m (d8 0 3) g8 (H m 32) := (RY_fr w4284 gm f4364 rfl (RY_fr hW gm f4285 rfl h4274))
      have h4398 : RB T H4359 m e8 d8 := (RB_fr w4284 gm f4364 rfl h4355)
      exact WL.loc hX (by simp) (next T H4359 ⟨⟨w4363, g0, gx, gm, go, by omega, by omega⟩, ⟨_, tc, tm, cu, dr, _, _, _, _, _, ce8, q4377, gtc, h4385, q4379, gtm, h4386, q4381, gcu, q4383, gdr, h4387, h4388, h4389, h4390, h4391, hC1, hC2, h4392, h4398, (h4393).1, (h4397).1, hE, hZ, (by omega), (by assumption), (by omega), (by first | assumption | exact SG_0), q4395, gce8, h4384, h4396, a4369, gm⟩, by omega, by omega⟩ (by omega) (by omega))
