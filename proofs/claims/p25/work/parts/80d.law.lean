/-! THE LAW, GONE ON WITH (own work) -/
set_option maxHeartbeats 4000000 in
theorem wl_c22 {kt : Nat → Option mc_E} {CB SB : Nat} {X : mc_S → Prop} {T : wq_T} {H : wq_H} {Len x m o : Nat} {i : Int} (hX : wlX kt CB SB X) (hb : T.2.1 ≤ CB ∧ T.2.2.1 ≤ SB) (hI : wlJ Len x m o T H) (hL : Len ≤ 3072) (hi : 0 ≤ i ∧ i + 6 ≤ Len) (hb2 : T.2.1 + 20 ≤ CB ∧ T.2.2.1 + 500 ≤ SB)  (next : ∀ T' H', wlJ Len x m o T' H' → T'.2.1 ≤ T.2.1 + 20 → T'.2.2.1 ≤ T.2.2.1 + 500 → WL kt CB SB X 1653 (wlL i x m o) [] T' H') : WL kt CB SB X 882 (wlL i x m o) [] T H := by
  obtain ⟨⟨hW, g0, gx, gm, go, hK, hr⟩, hXI, hY1, hY2⟩ := hI
  refine wl_of hX hb cL_882 (rw_aload_n (pc' := 883) (v := .ref x) rfl rfl rfl ?_)
  refine wl_of hX hb cL_883 (rw_aload_n (pc' := 884) (v := .ref 0) rfl rfl rfl ?_)
  refine wl_of hX hb cL_884 (rw_iload (pc' := 886) (z := i) rfl rfl ?_)
  refine wl_of hX hb cL_886 (rw_iconst (pc' := 887) rfl ?_)
  refine wl_of hX hb cL_887 (rw_iadd (pc' := 888) rfl ?_)
  refine wl_of hX hb cL_888 (xa_I (so := 0) (pc' := 889) (a := 0) hW g0 (wsh_s _) (by omega) (wty_s _ _) (by omega) (by omega) rfl (fun b3601 b3602 => ?_))
  refine wl_of hX hb cL_889 (rw_aload_n (pc' := 890) (v := .ref 0) rfl rfl rfl ?_)
  refine wl_of hX hb cL_890 (rw_iload (pc' := 892) (z := i) rfl rfl ?_)
  refine wl_of hX hb cL_892 (rw_iconst (pc' := 893) rfl ?_)
  refine wl_of hX hb cL_893 (rw_iadd (pc' := 894) rfl ?_)
  refine wl_of hX hb cL_894 (xa_I (so := 0) (pc' := 895) (a := 0) hW g0 (wsh_s _) (by omega) (wty_s _ _) (by omega) (by omega) rfl (fun b3603 b3604 => ?_))
  obtain ⟨B, tc, tm, cu, dr, C8, e8, d8, n8, g8, ce8, e0, gtc, htc, em, gtm, htm, ecu, gcu, edr, gdr, hcu, hdr, hdec, hded, hsp, hC1, hC2, hcu8, hrb8, hcg8, hmn8, hE, hZ, hn8, hXA, hV8, hSG, ece8, gce8, hcen8, hhdr8, hknn8, -⟩ := hXI
  have hN3 := RB_n3 hrb8
  have hE13 : ∀ h : Nat, h < 24 → 0 ≤ e8 13 h ∧ e8 13 h ≤ 100 := fun k hk => by
    obtain ⟨s, h1, h2, h3⟩ := hcu8.1.2.2.1
    exact ⟨(h3 k hk).1, (h3 k hk).2.1⟩
  have hXW := hXA.1
  have hXN := hXA.2
  have hE0 : e8 0 3 = d8 0 3 ∧ e8 0 0 = d8 0 0 := by
    have h := hE 0 (by decide)
    exact ⟨congrFun h 3, congrFun h 0⟩
  have u3605 := CU_k hcu8
  have h3606 : CY T H cu (d8 0 3) g8 (H cu 17) := ⟨hcg8, rfl⟩
  have h3607 : RY T H m (d8 0 3) g8 (H m 32) := ⟨hmn8, rfl⟩
  obtain ⟨t9, ht9⟩ : ∃ t : Int, t = H x 9 := ⟨_, rfl⟩
  obtain ⟨y9, hy9⟩ : ∃ y : Int, y = H 0 ((i + 2).toNat) := ⟨_, rfl⟩
  obtain ⟨r3608, q3609, g3610⟩ := hW.ref gx (t' := 6) (n := 13) (j := 2) (p := 0) (q := 0) rfl (by decide) rfl
  refine wl_of hX hb cL_895 (xc_V (pc' := 898) (r := x) (as := [vI (H 0 ((i + 1).toNat)), vI (H 0 ((i + 2).toNat))]) (st := []) (lm_11_114) rfl rfl (Nat.le_of_ble_eq_true rfl) hW gx sh_1 (by decide) rfl (by decide) (u_105 (e := e8) (d := d8) (n := n8) hW gx ⟨by omega, by omega⟩ ⟨by omega, by omega⟩ ecu gcu q3609 g3610 ece8 gce8 (by assumption) (by assumption) (by omega) (by omega) (by omega) (by omega) hcu8 hcen8 hhdr8) (fun R3611 T3612 H3613 p3614 => ?_))
  obtain ⟨e3615, w3617, f3618, z3619, e3616, b3620, p3621⟩ := p3614
  subst e3615
  subst e3616
  show WL _ _ _ _ 898 [(4, vI i), (3, .ref o), (2, .ref m), (1, .ref x), (0, .ref 0)] [vI z3619] _ H3613
  refine wl_of hX hb cL_898 (rw_pop (pc' := 899) rfl rfl ?_)
  refine wl_of hX hb cL_899 (rw_aload_n (pc' := 900) (v := .ref m) rfl rfl rfl ?_)
  refine wl_of hX hb cL_900 (rw_aload_n (pc' := 901) (v := .ref 0) rfl rfl rfl ?_)
  refine wl_of hX hb cL_901 (rw_iload (pc' := 903) (z := i) rfl rfl ?_)
  refine wl_of hX hb cL_903 (rw_iconst (pc' := 904) rfl ?_)
  refine wl_of hX hb cL_904 (rw_iadd (pc' := 905) rfl ?_)
  have k3625 : H3613 0 ((i + 1).toNat) = H 0 ((i + 1).toNat) := (f3618 0 ((i + 1).toNat) _ g0 (wmem_s rfl))
  refine wl_of hX hb cL_905 (xa_I (so := 0) (pc' := 906) (a := 0) w3617 g0 (wsh_s _) (by omega) (wty_s _ _) (by omega) (by omega) rfl (fun b3623 b3624 => ?_))
  refine wl_of hX hb cL_906 (rw_aload_n (pc' := 907) (v := .ref 0) rfl rfl rfl ?_)
  refine wl_of hX hb cL_907 (rw_iload (pc' := 909) (z := i) rfl rfl ?_)
  refine wl_of hX hb cL_909 (rw_iconst (pc' := 910) rfl ?_)
  refine wl_of hX hb cL_910 (rw_iadd (pc' := 911) rfl ?_)
  have k3628 : H3613 0 ((i + 2).toNat) = H 0 ((i + 2).toNat) := (f3618 0 ((i + 2).toNat) _ g0 (wmem_s rfl))
  refine wl_of hX hb cL_911 (xa_I (so := 0) (pc' := 912) (a := 0) w3617 g0 (wsh_s _) (by omega) (wty_s _ _) (by omega) (by omega) rfl (fun b3626 b3627 => ?_))
  have k3629 : wKI H3613 m = wKI H m := (wKI_fr hW gm f3618 rfl)
  have k3630 : H3613 x 9 = H x 9 := (f3618 x 9 _ gx rfl)
  have k3631 : H3613 m 6 = H m 6 := (f3618 m 6 _ gm rfl)
  have k3632 : H3613 x 11 = H x 11 := (f3618 x 11 _ gx rfl)
  have k3633 : H3613 m 13 = H m 13 := (f3618 m 13 _ gm rfl)
  have k3634 : H3613 x 8 = H x 8 := (f3618 x 8 _ gx rfl)
  have k3635 : H3613 m 3 = H m 3 := (f3618 m 3 _ gm rfl)
  rw [show H3613 0 ((i + 2).toNat) = H 0 ((i + 2).toNat) by omega]
  rw [show H3613 0 ((i + 1).toNat) = H 0 ((i + 1).toNat) by omega]
  have h3636 : RB T H3613 m e8 d8 := (RB_fr hW gm f3618 rfl hrb8)
  have h3637 : KNN T H3613 m e8 d8 := (KNN_fr hW gm f3618 rfl hknn8)
  refine wl_of hX hb cL_912 (xc_V (pc' := 915) (r := m) (as := [vI (H 0 ((i + 1).toNat)), vI (H 0 ((i + 2).toNat))]) (st := []) (lm_11_117) rfl rfl (Nat.le_of_ble_eq_true rfl) w3617 gm sh_42 (by decide) rfl (by decide) (u_255 (e := e8) (d := d8) w3617 gm ⟨by omega, by omega⟩ ⟨by omega, by omega⟩ (by omega) (by assumption) (by assumption) (by assumption) (by assumption) h3636 h3637) (fun R3638 T3639 H3640 p3641 => ?_))
  obtain ⟨e3642, w3644, f3645, z3646, e3643, b3647, p3648⟩ := p3641
  subst e3642
  subst e3643
  obtain ⟨a3649, a3650⟩ := p3648
  show WL _ _ _ _ 915 [(4, vI i), (3, .ref o), (2, .ref m), (1, .ref x), (0, .ref 0)] [vI z3646] _ H3640
  refine wl_of hX hb cL_915 (rw_pop (pc' := 916) rfl rfl ?_)
  refine wl_of hX hb cL_916 (rw_goto (p1 := 1653) (by decide) ?_)
  have k3651 : H3640 x 9 = H3613 x 9 := (f3645 x 9 _ gx rfl)
  have k3652 : H3640 m 6 = H3613 m 6 := (f3645 m 6 _ gm rfl)
  have k3653 : H3640 x 11 = H3613 x 11 := (f3645 x 11 _ gx rfl)
  have k3654 : H3640 m 13 = H3613 m 13 := (f3645 m 13 _ gm rfl)
  have k3655 : H3640 x 8 = H3613 x 8 := (f3645 x 8 _ gx rfl)
  have k3656 : H3640 m 3 = H3613 m 3 := (f3645 m 3 _ gm rfl)
  have k3657 : H3640 x 0 = H x 0 := ((f3645 x 0 _ gx rfl).trans (f3618 x 0 _ gx rfl))
  have q3658 : H3640 x 0 = (tc : Int) := k3657.trans e0
  have k3659 : H3640 m 5 = H m 5 := ((f3645 m 5 _ gm rfl).trans (f3618 m 5 _ gm rfl))
  have q3660 : H3640 m 5 = (tm : Int) := k3659.trans em
  have k3661 : H3640 x 6 = H x 6 := ((f3645 x 6 _ gx rfl).trans (f3618 x 6 _ gx rfl))
  have q3662 : H3640 x 6 = (cu : Int) := k3661.trans ecu
  have k3663 : H3640 x 7 = H x 7 := ((f3645 x 7 _ gx rfl).trans (f3618 x 7 _ gx rfl))
  have q3664 : H3640 x 7 = (dr : Int) := k3663.trans edr
  have h3665 : CEN T H3640 ce8 e8 d8 := (CEN_fr w3617 gce8 f3645 rfl p3621)
  have h3666 : TP T H3640 tc B := (TP_fr w3617 gtc f3645 rfl (TP_fr hW gtc f3618 rfl htc))
  have h3667 : TM T H3640 tm B := (TM_fr w3617 gtm f3645 rfl (TM_fr hW gtm f3618 rfl htm))
  have h3668 : DD T H3640 cu  := (DD_fr w3617 gcu f3645 rfl (DD_fr hW gcu f3618 rfl hcu))
  have h3669 : DD T H3640 dr  := (DD_fr w3617 gdr f3645 rfl (DD_fr hW gdr f3618 rfl hdr))
  have h3670 : DE T H3640 cu  := (DE_fr w3617 gcu f3645 rfl (DE_fr hW gcu f3618 rfl hdec))
  have h3671 : DE T H3640 dr  := (DE_fr w3617 gdr f3645 rfl (DE_fr hW gdr f3618 rfl hded))
  have h3672 : SP T H3640 x C8 := (SP_fr w3617 gx f3645 rfl (SP_fr hW gx f3618 rfl hsp))
  have h3673 : CU T H3640 cu e8 d8 n8 := (CU_fr w3617 gcu f3645 rfl (CU_fr hW gcu f3618 rfl hcu8))
  have h3674 : CY T H3640 cu (d8 0 3) g8 (H cu 17) := (CY_fr w3617 gcu f3645 rfl (CY_fr hW gcu f3618 rfl h3606))
  have k3675 : H3640 x 3 = H x 3 := ((f3645 x 3 _ gx rfl).trans (f3618 x 3 _ gx rfl))
  have q3676 : H3640 x 3 = (ce8 : Int) := k3675.trans ece8
  have h3677 : HDR T H3640 ce8  := (HDR_fr w3617 gce8 f3645 rfl (HDR_fr hW gce8 f3618 rfl hhdr8))
  have h3678 : RY T H3640 m (d8 0 3) g8 (H m 32) := (RY_fr w3617 gm f3645 rfl (RY_fr hW gm f3618 rfl h3607))
  have h3679 : RB T H3640 m e8 d8 := (RB_fr w3617 gm f3645 rfl h3636)
  exact WL.loc hX (by simp) (next T H3640 ⟨⟨w3644, g0, gx, gm, go, by omega, by omega⟩, ⟨_, tc, tm, cu, dr, _, _, _, _, _, ce8, q3658, gtc, h3666, q3660, gtm, h3667, q3662, gcu, q3664, gdr, h3668, h3669, h3670, h3671, h3672, hC1, hC2, h3673, h3679, (h3674).1, (h3678).1, hE, hZ, (by omega), (by assumption), (by omega), (by first | assumption | exact SG_0), q3676, gce8, h3665, h3677, a3650, gm⟩, by omega, by omega⟩ (by omega) (by omega))
set_option maxHeartbeats 4000000 in
theorem wl_c23 {kt : Nat → Option mc_E} {CB SB : Nat} {X : mc_S → Prop} {T : wq_T} {H : wq_H} {Len x m o : Nat} {i : Int} (hX : wlX kt CB SB X) (hb : T.2.1 ≤ CB ∧ T.2.2.1 ≤ SB) (hI : wlJ Len x m o T H) (hL : Len ≤ 3072) (hi : 0 ≤ i ∧ i + 6 ≤ Len) (hb2 : T.2.1 + 20 ≤ CB ∧ T.2.2.1 + 500 ≤ SB)  (next : ∀ T' H', wlJ Len x m o T' H' → T'.2.1 ≤ T.2.1 + 20 → T'.2.2.1 ≤ T.2.2.1 + 500 → WL kt CB SB X 1653 (wlL i x m o) [] T' H') : WL kt CB SB X 919 (wlL i x m o) [] T H := by
  obtain ⟨⟨hW, g0, gx, gm, go, hK, hr⟩, hXI, hY1, hY2⟩ := hI
  refine wl_of hX hb cL_919 (rw_aload_n (pc' := 920) (v := .ref x) rfl rfl rfl ?_)
  refine wl_of hX hb cL_920 (rw_aload_n (pc' := 921) (v := .ref 0) rfl rfl rfl ?_)
  refine wl_of hX hb cL_921 (rw_iload (pc' := 923) (z := i) rfl rfl ?_)
  refine wl_of hX hb cL_923 (rw_iconst (pc' := 924) rfl ?_)
  refine wl_of hX hb cL_924 (rw_iadd (pc' := 925) rfl ?_)
  refine wl_of hX hb cL_925 (xa_I (so := 0) (pc' := 926) (a := 0) hW g0 (wsh_s _) (by omega) (wty_s _ _) (by omega) (by omega) rfl (fun b3680 b3681 => ?_))
  obtain ⟨B, tc, tm, cu, dr, C8, e8, d8, n8, g8, ce8, e0, gtc, htc, em, gtm, htm, ecu, gcu, edr, gdr, hcu, hdr, hdec, hded, hsp, hC1, hC2, hcu8, hrb8, hcg8, hmn8, hE, hZ, hn8, hXA, hV8, hSG, ece8, gce8, hcen8, hhdr8, hknn8, -⟩ := hXI
  have hN3 := RB_n3 hrb8
  have hE13 : ∀ h : Nat, h < 24 → 0 ≤ e8 13 h ∧ e8 13 h ≤ 100 := fun k hk => by
    obtain ⟨s, h1, h2, h3⟩ := hcu8.1.2.2.1
    exact ⟨(h3 k hk).1, (h3 k hk).2.1⟩
  have hXW := hXA.1
  have hXN := hXA.2
  have hE0 : e8 0 3 = d8 0 3 ∧ e8 0 0 = d8 0 0 := by
    have h := hE 0 (by decide)
    exact ⟨congrFun h 3, congrFun h 0⟩
  have u3682 := CU_k hcu8
  have h3683 : CY T H cu (d8 0 3) g8 (H cu 17) := ⟨hcg8, rfl⟩
  have h3684 : RY T H m (d8 0 3) g8 (H m 32) := ⟨hmn8, rfl⟩
  obtain ⟨t9, ht9⟩ : ∃ t : Int, t = H x 9 := ⟨_, rfl⟩
  obtain ⟨y9, hy9⟩ : ∃ y : Int, y = H 0 ((i + 1).toNat) := ⟨_, rfl⟩
  obtain ⟨r3685, q3686, g3687⟩ := hW.ref gx (t' := 6) (n := 13) (j := 2) (p := 0) (q := 0) rfl (by decide) rfl
  refine wl_of hX hb cL_926 (xc_V (pc' := 929) (r := x) (as := [vI (H 0 ((i + 1).toNat))]) (st := []) (lm_11_118) rfl rfl (Nat.le_of_ble_eq_true rfl) hW gx sh_1 (by decide) rfl (by decide) (u_107 (e := e8) (d := d8) (n := n8) hW gx ⟨by omega, by omega⟩ ecu gcu q3686 g3687 ece8 gce8 (by assumption) (by assumption) (by omega) (by omega) (by omega) (by omega) hcu8 hcen8 hhdr8) (fun R3688 T3689 H3690 p3691 => ?_))
  obtain ⟨e3692, w3694, f3695, z3696, e3693, b3697, p3698⟩ := p3691
  subst e3692
  subst e3693
  rcases p3698 with ⟨a3699, a3700, a3701⟩ | ⟨a3702, a3703, a3704⟩
  · show WL _ _ _ _ 929 [(4, vI i), (3, .ref o), (2, .ref m), (1, .ref x), (0, .ref 0)] [vI z3696] _ H3690
    refine wl_of hX hb cL_929 (rw_aload_n (pc' := 930) (v := .ref m) rfl rfl rfl ?_)
    refine wl_of hX hb cL_930 (rw_aload_n (pc' := 931) (v := .ref 0) rfl rfl rfl ?_)
    refine wl_of hX hb cL_931 (rw_iload (pc' := 933) (z := i) rfl rfl ?_)
    refine wl_of hX hb cL_933 (rw_iconst (pc' := 934) rfl ?_)
    refine wl_of hX hb cL_934 (rw_iadd (pc' := 935) rfl ?_)
    have k3707 : H3690 0 ((i + 1).toNat) = H 0 ((i + 1).toNat) := (f3695 0 ((i + 1).toNat) _ g0 (wmem_s rfl))
    refine wl_of hX hb cL_935 (xa_I (so := 0) (pc' := 936) (a := 0) w3694 g0 (wsh_s _) (by omega) (wty_s _ _) (by omega) (by omega) rfl (fun b3705 b3706 => ?_))
    have k3708 : wKI H3690 m = wKI H m := (wKI_fr hW gm f3695 rfl)
    have k3709 : H3690 x 9 = H x 9 := (f3695 x 9 _ gx rfl)
    have k3710 : H3690 m 6 = H m 6 := (f3695 m 6 _ gm rfl)
    have k3711 : H3690 x 11 = H x 11 := (f3695 x 11 _ gx rfl)
    have k3712 : H3690 m 13 = H m 13 := (f3695 m 13 _ gm rfl)
    have k3713 : H3690 x 8 = H x 8 := (f3695 x 8 _ gx rfl)
    have k3714 : H3690 m 3 = H m 3 := (f3695 m 3 _ gm rfl)
    rw [show H3690 0 ((i + 1).toNat) = H 0 ((i + 1).toNat) by omega]
    have h3715 : RB T H3690 m e8 d8 := (RB_fr hW gm f3695 rfl hrb8)
    have h3716 : KNN T H3690 m e8 d8 := (KNN_fr hW gm f3695 rfl hknn8)
    refine wl_of hX hb cL_936 (xc_V (pc' := 939) (r := m) (as := [vI (H 0 ((i + 1).toNat))]) (st := [vI z3696]) (lm_11_121) rfl rfl (Nat.le_of_ble_eq_true rfl) w3694 gm sh_42 (by decide) rfl (by decide) (u_256 (e := e8) (d := d8) w3694 gm ⟨by omega, by omega⟩ (by omega) (by assumption) (by assumption) (by assumption) (by assumption) h3715 h3716) (fun R3717 T3718 H3719 p3720 => ?_))
    obtain ⟨e3721, w3723, f3724, z3725, e3722, b3726, p3727⟩ := p3720
    subst e3721
    subst e3722
    rcases p3727 with ⟨a3728, a3729, a3730, a3731⟩ | ⟨a3732, a3733, a3734, a3735⟩
    · show WL _ _ _ _ 939 [(4, vI i), (3, .ref o), (2, .ref m), (1, .ref x), (0, .ref 0)] [vI z3725, vI z3696] _ H3719
      refine wl_of hX hb cL_939 (rw_icmp_eq (p1 := 1653) (p2 := 942) (by decide) rfl ⟨b3697.1, b3697.2⟩ ⟨b3726.1, b3726.2⟩ (fun c3736 => ?_) (fun c3736 => ?_))
      · have k3737 : H3719 x 9 = H3690 x 9 := (f3724 x 9 _ gx rfl)
        have k3738 : H3719 m 6 = H3690 m 6 := (f3724 m 6 _ gm rfl)
        have k3739 : H3719 x 11 = H3690 x 11 := (f3724 x 11 _ gx rfl)
        have k3740 : H3719 m 13 = H3690 m 13 := (f3724 m 13 _ gm rfl)
        have k3741 : H3719 x 8 = H3690 x 8 := (f3724 x 8 _ gx rfl)
        have k3742 : H3719 m 3 = H3690 m 3 := (f3724 m 3 _ gm rfl)
        have k3743 : H3719 x 0 = H x 0 := ((f3724 x 0 _ gx rfl).trans (f3695 x 0 _ gx rfl))
        have q3744 : H3719 x 0 = (tc : Int) := k3743.trans e0
        have k3745 : H3719 m 5 = H m 5 := ((f3724 m 5 _ gm rfl).trans (f3695 m 5 _ gm rfl))
        have q3746 : H3719 m 5 = (tm : Int) := k3745.trans em
        have k3747 : H3719 x 6 = H x 6 := ((f3724 x 6 _ gx rfl).trans (f3695 x 6 _ gx rfl))
        have q3748 : H3719 x 6 = (cu : Int) := k3747.trans ecu
        have k3749 : H3719 x 7 = H x 7 := ((f3724 x 7 _ gx rfl).trans (f3695 x 7 _ gx rfl))
        have q3750 : H3719 x 7 = (dr : Int) := k3749.trans edr
        have h3751 : CEN T H3719 ce8 e8 d8 := (CEN_fr w3694 gce8 f3724 rfl a3701)
        have h3752 : TP T H3719 tc B := (TP_fr w3694 gtc f3724 rfl (TP_fr hW gtc f3695 rfl htc))
        have h3753 : TM T H3719 tm B := (TM_fr w3694 gtm f3724 rfl (TM_fr hW gtm f3695 rfl htm))
        have h3754 : DD T H3719 cu  := (DD_fr w3694 gcu f3724 rfl (DD_fr hW gcu f3695 rfl hcu))
        have h3755 : DD T H3719 dr  := (DD_fr w3694 gdr f3724 rfl (DD_fr hW gdr f3695 rfl hdr))
        have h3756 : DE T H3719 cu  := (DE_fr w3694 gcu f3724 rfl (DE_fr hW gcu f3695 rfl hdec))
        have h3757 : DE T H3719 dr  := (DE_fr w3694 gdr f3724 rfl (DE_fr hW gdr f3695 rfl hded))
        have h3758 : SP T H3719 x C8 := (SP_fr w3694 gx f3724 rfl (SP_fr hW gx f3695 rfl hsp))
        have h3759 : CU T H3719 cu e8 d8 n8 := (CU_fr w3694 gcu f3724 rfl (CU_fr hW gcu f3695 rfl hcu8))
        have h3760 : CY T H3719 cu (d8 0 3) g8 (H cu 17) := (CY_fr w3694 gcu f3724 rfl (CY_fr hW gcu f3695 rfl h3683))
        have k3761 : H3719 x 3 = H x 3 := ((f3724 x 3 _ gx rfl).trans (f3695 x 3 _ gx rfl))
        have q3762 : H3719 x 3 = (ce8 : Int) := k3761.trans ece8
        have h3763 : HDR T H3719 ce8  := (HDR_fr w3694 gce8 f3724 rfl (HDR_fr hW gce8 f3695 rfl hhdr8))
        have h3764 : RY T H3719 m (d8 0 3) g8 (H m 32) := (RY_fr w3694 gm f3724 rfl (RY_fr hW gm f3695 rfl h3684))
        have h3765 : RB T H3719 m e8 d8 := (RB_fr w3694 gm f3724 rfl h3715)
        exact WL.loc hX (by simp) (next T H3719 ⟨⟨w3723, g0, gx, gm, go, by omega, by omega⟩, ⟨_, tc, tm, cu, dr, _, _, _, _, _, ce8, q3744, gtc, h3752, q3746, gtm, h3753, q3748, gcu, q3750, gdr, h3754, h3755, h3756, h3757, h3758, hC1, hC2, h3759, h3765, (h3760).1, (h3764).1, hE, hZ, (by omega), (by assumption), (by omega), (by first | assumption | exact SG_0), q3762, gce8, h3751, h3763, a3731, gm⟩, by omega, by omega⟩ (by omega) (by omega))
      · exfalso
        omega
    · show WL _ _ _ _ 939 [(4, vI i), (3, .ref o), (2, .ref m), (1, .ref x), (0, .ref 0)] [vI z3725, vI z3696] _ H3719
      refine wl_of hX hb cL_939 (rw_icmp_eq (p1 := 1653) (p2 := 942) (by decide) rfl ⟨b3697.1, b3697.2⟩ ⟨b3726.1, b3726.2⟩ (fun c3766 => ?_) (fun c3766 => ?_))
      · have k3767 : H3719 x 9 = H3690 x 9 := (f3724 x 9 _ gx rfl)
        have k3768 : H3719 m 6 = H3690 m 6 := (f3724 m 6 _ gm rfl)
        have k3769 : H3719 x 11 = H3690 x 11 := (f3724 x 11 _ gx rfl)
        have k3770 : H3719 m 13 = H3690 m 13 := (f3724 m 13 _ gm rfl)
        have k3771 : H3719 x 8 = H3690 x 8 := (f3724 x 8 _ gx rfl)
        have k3772 : H3719 m 3 = H3690 m 3 := (f3724 m 3 _ gm rfl)
        have k3773 : H3719 x 0 = H x 0 := ((f3724 x 0 _ gx rfl).trans (f3695 x 0 _ gx rfl))
        have q3774 : H3719 x 0 = (tc : Int) := k3773.trans e0
        have k3775 : H3719 m 5 = H m 5 := ((f3724 m 5 _ gm rfl).trans (f3695 m 5 _ gm rfl))
        have q3776 : H3719 m 5 = (tm : Int) := k3775.trans em
        have k3777 : H3719 x 6 = H x 6 := ((f3724 x 6 _ gx rfl).trans (f3695 x 6 _ gx rfl))
        have q3778 : H3719 x 6 = (cu : Int) := k3777.trans ecu
        have k3779 : H3719 x 7 = H x 7 := ((f3724 x 7 _ gx rfl).trans (f3695 x 7 _ gx rfl))
        have q3780 : H3719 x 7 = (dr : Int) := k3779.trans edr
        have h3781 : CEN T H3719 ce8 e8 d8 := (CEN_fr w3694 gce8 f3724 rfl a3701)
        have h3782 : TP T H3719 tc B := (TP_fr w3694 gtc f3724 rfl (TP_fr hW gtc f3695 rfl htc))
        have h3783 : TM T H3719 tm B := (TM_fr w3694 gtm f3724 rfl (TM_fr hW gtm f3695 rfl htm))
        have h3784 : DD T H3719 cu  := (DD_fr w3694 gcu f3724 rfl (DD_fr hW gcu f3695 rfl hcu))
        have h3785 : DD T H3719 dr  := (DD_fr w3694 gdr f3724 rfl (DD_fr hW gdr f3695 rfl hdr))
        have h3786 : DE T H3719 cu  := (DE_fr w3694 gcu f3724 rfl (DE_fr hW gcu f3695 rfl hdec))
        have h3787 : DE T H3719 dr  := (DE_fr w3694 gdr f3724 rfl (DE_fr hW gdr f3695 rfl hded))
        have h3788 : SP T H3719 x C8 := (SP_fr w3694 gx f3724 rfl (SP_fr hW gx f3695 rfl hsp))
        have h3789 : CU T H3719 cu e8 d8 n8 := (CU_fr w3694 gcu f3724 rfl (CU_fr hW gcu f3695 rfl hcu8))
        have h3790 : CY T H3719 cu (d8 0 3) g8 (H cu 17) := (CY_fr w3694 gcu f3724 rfl (CY_fr hW gcu f3695 rfl h3683))
        have k3791 : H3719 x 3 = H x 3 := ((f3724 x 3 _ gx rfl).trans (f3695 x 3 _ gx rfl))
        have q3792 : H3719 x 3 = (ce8 : Int) := k3791.trans ece8
        have h3793 : HDR T H3719 ce8  := (HDR_fr w3694 gce8 f3724 rfl (HDR_fr hW gce8 f3695 rfl hhdr8))
        have h3794 : RY T H3719 m (d8 0 3) g8 (H m 32) := (RY_fr w3694 gm f3724 rfl (RY_fr hW gm f3695 rfl h3684))
        have h3795 : RB T H3719 m e8 d8 := (RB_fr w3694 gm f3724 rfl h3715)
        exact WL.loc hX (by simp) (next T H3719 ⟨⟨w3723, g0, gx, gm, go, by omega, by omega⟩, ⟨_, tc, tm, cu, dr, _, _, _, _, _, ce8, q3774, gtc, h3782, q3776, gtm, h3783, q3778, gcu, q3780, gdr, h3784, h3785, h3786, h3787, h3788, hC1, hC2, h3789, h3795, (h3790).1, (h3794).1, hE, hZ, (by omega), (by assumption), (by omega), (by first | assumption | exact SG_0), q3792, gce8, h3781, h3793, a3735, gm⟩, by omega, by omega⟩ (by omega) (by omega))
      · refine wl_of hX hb cL_942 (rw_iconst (pc' := 943) rfl ?_)
        exfalso
        omega
  · show WL _ _ _ _ 929 [(4, vI i), (3, .ref o), (2, .ref m), (1, .ref x), (0, .ref 0)] [vI z3696] _ H3690
    refine wl_of hX hb cL_929 (rw_aload_n (pc' := 930) (v := .ref m) rfl rfl rfl ?_)
    refine wl_of hX hb cL_930 (rw_aload_n (pc' := 931) (v := .ref 0) rfl rfl rfl ?_)
    refine wl_of hX hb cL_931 (rw_iload (pc' := 933) (z := i) rfl rfl ?_)
    refine wl_of hX hb cL_933 (rw_iconst (pc' := 934) rfl ?_)
    refine wl_of hX hb cL_934 (rw_iadd (pc' := 935) rfl ?_)
    have k3798 : H3690 0 ((i + 1).toNat) = H 0 ((i + 1).toNat) := (f3695 0 ((i + 1).toNat) _ g0 (wmem_s rfl))
    refine wl_of hX hb cL_935 (xa_I (so := 0) (pc' := 936) (a := 0) w3694 g0 (wsh_s _) (by omega) (wty_s _ _) (by omega) (by omega) rfl (fun b3796 b3797 => ?_))
    have k3799 : wKI H3690 m = wKI H m := (wKI_fr hW gm f3695 rfl)
    have k3800 : H3690 x 9 = H x 9 := (f3695 x 9 _ gx rfl)
    have k3801 : H3690 m 6 = H m 6 := (f3695 m 6 _ gm rfl)
    have k3802 : H3690 x 11 = H x 11 := (f3695 x 11 _ gx rfl)
    have k3803 : H3690 m 13 = H m 13 := (f3695 m 13 _ gm rfl)
    have k3804 : H3690 x 8 = H x 8 := (f3695 x 8 _ gx rfl)
    have k3805 : H3690 m 3 = H m 3 := (f3695 m 3 _ gm rfl)
    rw [show H3690 0 ((i + 1).toNat) = H 0 ((i + 1).toNat) by omega]
    have h3806 : RB T H3690 m e8 d8 := (RB_fr hW gm f3695 rfl hrb8)
    have h3807 : KNN T H3690 m e8 d8 := (KNN_fr hW gm f3695 rfl hknn8)
    refine wl_of hX hb cL_936 (xc_V (pc' := 939) (r := m) (as := [vI (H 0 ((i + 1).toNat))]) (st := [vI z3696]) (lm_11_121) rfl rfl (Nat.le_of_ble_eq_true rfl) w3694 gm sh_42 (by decide) rfl (by decide) (u_256 (e := e8) (d := d8) w3694 gm ⟨by omega, by omega⟩ (by omega) (by assumption) (by assumption) (by assumption) (by assumption) h3806 h3807) (fun R3808 T3809 H3810 p3811 => ?_))
    obtain ⟨e3812, w3814, f3815, z3816, e3813, b3817, p3818⟩ := p3811
    subst e3812
    subst e3813
    rcases p3818 with ⟨a3819, a3820, a3821, a3822⟩ | ⟨a3823, a3824, a3825, a3826⟩
    · show WL _ _ _ _ 939 [(4, vI i), (3, .ref o), (2, .ref m), (1, .ref x), (0, .ref 0)] [vI z3816, vI z3696] _ H3810
      refine wl_of hX hb cL_939 (rw_icmp_eq (p1 := 1653) (p2 := 942) (by decide) rfl ⟨b3697.1, b3697.2⟩ ⟨b3817.1, b3817.2⟩ (fun c3827 => ?_) (fun c3827 => ?_))
      · have k3828 : H3810 x 9 = H3690 x 9 := (f3815 x 9 _ gx rfl)
        have k3829 : H3810 m 6 = H3690 m 6 := (f3815 m 6 _ gm rfl)
        have k3830 : H3810 x 11 = H3690 x 11 := (f3815 x 11 _ gx rfl)
        have k3831 : H3810 m 13 = H3690 m 13 := (f3815 m 13 _ gm rfl)
        have k3832 : H3810 x 8 = H3690 x 8 := (f3815 x 8 _ gx rfl)
        have k3833 : H3810 m 3 = H3690 m 3 := (f3815 m 3 _ gm rfl)
        have k3834 : H3810 x 0 = H x 0 := ((f3815 x 0 _ gx rfl).trans (f3695 x 0 _ gx rfl))
        have q3835 : H3810 x 0 = (tc : Int) := k3834.trans e0
        have k3836 : H3810 m 5 = H m 5 := ((f3815 m 5 _ gm rfl).trans (f3695 m 5 _ gm rfl))
        have q3837 : H3810 m 5 = (tm : Int) := k3836.trans em
        have k3838 : H3810 x 6 = H x 6 := ((f3815 x 6 _ gx rfl).trans (f3695 x 6 _ gx rfl))
        have q3839 : H3810 x 6 = (cu : Int) := k3838.trans ecu
        have k3840 : H3810 x 7 = H x 7 := ((f3815 x 7 _ gx rfl).trans (f3695 x 7 _ gx rfl))
        have q3841 : H3810 x 7 = (dr : Int) := k3840.trans edr
        have h3842 : CEN T H3810 ce8 e8 d8 := (CEN_fr w3694 gce8 f3815 rfl a3704)
        have h3843 : TP T H3810 tc B := (TP_fr w3694 gtc f3815 rfl (TP_fr hW gtc f3695 rfl htc))
        have h3844 : TM T H3810 tm B := (TM_fr w3694 gtm f3815 rfl (TM_fr hW gtm f3695 rfl htm))
        have h3845 : DD T H3810 cu  := (DD_fr w3694 gcu f3815 rfl (DD_fr hW gcu f3695 rfl hcu))
        have h3846 : DD T H3810 dr  := (DD_fr w3694 gdr f3815 rfl (DD_fr hW gdr f3695 rfl hdr))
        have h3847 : DE T H3810 cu  := (DE_fr w3694 gcu f3815 rfl (DE_fr hW gcu f3695 rfl hdec))
        have h3848 : DE T H3810 dr  := (DE_fr w3694 gdr f3815 rfl (DE_fr hW gdr f3695 rfl hded))
        have h3849 : SP T H3810 x C8 := (SP_fr w3694 gx f3815 rfl (SP_fr hW gx f3695 rfl hsp))
        have h3850 : CU T H3810 cu e8 d8 n8 := (CU_fr w3694 gcu f3815 rfl (CU_fr hW gcu f3695 rfl hcu8))
        have h3851 : CY T H3810 cu (d8 0 3) g8 (H cu 17) := (CY_fr w3694 gcu f3815 rfl (CY_fr hW gcu f3695 rfl h3683))
        have k3852 : H3810 x 3 = H x 3 := ((f3815 x 3 _ gx rfl).trans (f3695 x 3 _ gx rfl))
        have q3853 : H3810 x 3 = (ce8 : Int) := k3852.trans ece8
        have h3854 : HDR T H3810 ce8  := (HDR_fr w3694 gce8 f3815 rfl (HDR_fr hW gce8 f3695 rfl hhdr8))
        have h3855 : RY T H3810 m (d8 0 3) g8 (H m 32) := (RY_fr w3694 gm f3815 rfl (RY_fr hW gm f3695 rfl h3684))
        have h3856 : RB T H3810 m e8 d8 := (RB_fr w3694 gm f3815 rfl h3806)
        exact WL.loc hX (by simp) (next T H3810 ⟨⟨w3814, g0, gx, gm, go, by omega, by omega⟩, ⟨_, tc, tm, cu, dr, _, _, _, _, _, ce8, q3835, gtc, h3843, q3837, gtm, h3844, q3839, gcu, q3841, gdr, h3845, h3846, h3847, h3848, h3849, hC1, hC2, h3850, h3856, (h3851).1, (h3855).1, hE, hZ, (by omega), (by assumption), (by omega), (by first | assumption | exact SG_0), q3853, gce8, h3842, h3854, a3822, gm⟩, by omega, by omega⟩ (by omega) (by omega))
      · refine wl_of hX hb cL_942 (rw_iconst (pc' := 943) rfl ?_)
        exfalso
        omega
    · show WL _ _ _ _ 939 [(4, vI i), (3, .ref o), (2, .ref m), (1, .ref x), (0, .ref 0)] [vI z3816, vI z3696] _ H3810
      refine wl_of hX hb cL_939 (rw_icmp_eq (p1 := 1653) (p2 := 942) (by decide) rfl ⟨b3697.1, b3697.2⟩ ⟨b3817.1, b3817.2⟩ (fun c3857 => ?_) (fun c3857 => ?_))
      · have k3858 : H3810 x 9 = H3690 x 9 := (f3815 x 9 _ gx rfl)
        have k3859 : H3810 m 6 = H3690 m 6 := (f3815 m 6 _ gm rfl)
        have k3860 : H3810 x 11 = H3690 x 11 := (f3815 x 11 _ gx rfl)
        have k3861 : H3810 m 13 = H3690 m 13 := (f3815 m 13 _ gm rfl)
        have k3862 : H3810 x 8 = H3690 x 8 := (f3815 x 8 _ gx rfl)
        have k3863 : H3810 m 3 = H3690 m 3 := (f3815 m 3 _ gm rfl)
        have k3864 : H3810 x 0 = H x 0 := ((f3815 x 0 _ gx rfl).trans (f3695 x 0 _ gx rfl))
        have q3865 : H3810 x 0 = (tc : Int) := k3864.trans e0
        have k3866 : H3810 m 5 = H m 5 := ((f3815 m 5 _ gm rfl).trans (f3695 m 5 _ gm rfl))
        have q3867 : H3810 m 5 = (tm : Int) := k3866.trans em
        have k3868 : H3810 x 6 = H x 6 := ((f3815 x 6 _ gx rfl).trans (f3695 x 6 _ gx rfl))
        have q3869 : H3810 x 6 = (cu : Int) := k3868.trans ecu
        have k3870 : H3810 x 7 = H x 7 := ((f3815 x 7 _ gx rfl).trans (f3695 x 7 _ gx rfl))
        have q3871 : H3810 x 7 = (dr : Int) := k3870.trans edr
        have h3872 : CEN T H3810 ce8 e8 d8 := (CEN_fr w3694 gce8 f3815 rfl a3704)
        have h3873 : TP T H3810 tc B := (TP_fr w3694 gtc f3815 rfl (TP_fr hW gtc f3695 rfl htc))
        have h3874 : TM T H3810 tm B := (TM_fr w3694 gtm f3815 rfl (TM_fr hW gtm f3695 rfl htm))
        have h3875 : DD T H3810 cu  := (DD_fr w3694 gcu f3815 rfl (DD_fr hW gcu f3695 rfl hcu))
        have h3876 : DD T H3810 dr  := (DD_fr w3694 gdr f3815 rfl (DD_fr hW gdr f3695 rfl hdr))
        have h3877 : DE T H3810 cu  := (DE_fr w3694 gcu f3815 rfl (DE_fr hW gcu f3695 rfl hdec))
        have h3878 : DE T H3810 dr  := (DE_fr w3694 gdr f3815 rfl (DE_fr hW gdr f3695 rfl hded))
        have h3879 : SP T H3810 x C8 := (SP_fr w3694 gx f3815 rfl (SP_fr hW gx f3695 rfl hsp))
        have h3880 : CU T H3810 cu e8 d8 n8 := (CU_fr w3694 gcu f3815 rfl (CU_fr hW gcu f3695 rfl hcu8))
        have h3881 : CY T H3810 cu (d8 0 3) g8 (H cu 17) := (CY_fr w3694 gcu f3815 rfl (CY_fr hW gcu f3695 rfl h3683))
        have k3882 : H3810 x 3 = H x 3 := ((f3815 x 3 _ gx rfl).trans (f3695 x 3 _ gx rfl))
        have q3883 : H3810 x 3 = (ce8 : Int) := k3882.trans ece8
        have h3884 : HDR T H3810 ce8  := (HDR_fr w3694 gce8 f3815 rfl (HDR_fr hW gce8 f3695 rfl hhdr8))
        have h3885 : RY T H3810 m (d8 0 3) g8 (H m 32) := (RY_fr w3694 gm f3815 rfl (RY_fr hW gm f3695 rfl h3684))
        have h3886 : RB T H3810 m e8 d8 := (RB_fr w3694 gm f3815 rfl h3806)
        exact WL.loc hX (by simp) (next T H3810 ⟨⟨w3814, g0, gx, gm, go, by omega, by omega⟩, ⟨_, tc, tm, cu, dr, _, _, _, _, _, ce8, q3865, gtc, h3873, q3867, gtm, h3874, q3869, gcu, q3871, gdr, h3875, h3876, h3877, h3878, h3879, hC1, hC2, h3880, h3886, (h3881).1, (h3885).1, hE, hZ, (by omega), (by assumption), (by omega), (by first | assumption | exact SG_0), q3883, gce8, h3872, h3884, a3826, gm⟩, by omega, by omega⟩ (by omega) (by omega))
      · refine wl_of hX hb cL_942 (rw_iconst (pc' := 943) rfl ?_)
        exfalso
        omega
set_option maxHeartbeats 4000000 in
theorem wl_c24 {kt : Nat → Option mc_E} {CB SB : Nat} {X : mc_S → Prop} {T : wq_T} {H : wq_H} {Len x m o : Nat} {i : Int} (hX : wlX kt CB SB X) (hb : T.2.1 ≤ CB ∧ T.2.2.1 ≤ SB) (hI : wlJ Len x m o T H) (hL : Len ≤ 3072) (hi : 0 ≤ i ∧ i + 6 ≤ Len) (hb2 : T.2.1 + 20 ≤ CB ∧ T.2.2.1 + 500 ≤ SB)  (next : ∀ T' H', wlJ Len x m o T' H' → T'.2.1 ≤ T.2.1 + 20 → T'.2.2.1 ≤ T.2.2.1 + 500 → WL kt CB SB X 1653 (wlL i x m o) [] T' H') : WL kt CB SB X 944 (wlL i x m o) [] T H := by
  obtain ⟨⟨hW, g0, gx, gm, go, hK, hr⟩, hXI, hY1, hY2⟩ := hI
  refine wl_of hX hb cL_944 (rw_aload_n (pc' := 945) (v := .ref x) rfl rfl rfl ?_)
  obtain ⟨B, tc, tm, cu, dr, C8, e8, d8, n8, g8, ce8, e0, gtc, htc, em, gtm, htm, ecu, gcu, edr, gdr, hcu, hdr, hdec, hded, hsp, hC1, hC2, hcu8, hrb8, hcg8, hmn8, hE, hZ, hn8, hXA, hV8, hSG, ece8, gce8, hcen8, hhdr8, hknn8, -⟩ := hXI
  have hN3 := RB_n3 hrb8
  have hE13 : ∀ h : Nat, h < 24 → 0 ≤ e8 13 h ∧ e8 13 h ≤ 100 := fun k hk => by
    obtain ⟨s, h1, h2, h3⟩ := hcu8.1.2.2.1
    exact ⟨(h3 k hk).1, (h3 k hk).2.1⟩
  have hXW := hXA.1
  have hXN := hXA.2
  have hE0 : e8 0 3 = d8 0 3 ∧ e8 0 0 = d8 0 0 := by
    have h := hE 0 (by decide)
    exact ⟨congrFun h 3, congrFun h 0⟩
  have u3887 := CU_k hcu8
  have h3888 : CY T H cu (d8 0 3) g8 (H cu 17) := ⟨hcg8, rfl⟩
  have h3889 : RY T H m (d8 0 3) g8 (H m 32) := ⟨hmn8, rfl⟩
  obtain ⟨t9, ht9⟩ : ∃ t : Int, t = H x 9 := ⟨_, rfl⟩
  obtain ⟨r3890, q3891, g3892⟩ := hW.ref gx (t' := 6) (n := 13) (j := 2) (p := 0) (q := 0) rfl (by decide) rfl
  refine wl_of hX hb cL_945 (xc_V (pc' := 948) (r := x) (as := []) (st := []) (lm_11_122) rfl rfl (Nat.le_of_ble_eq_true rfl) hW gx sh_1 (by decide) rfl (by decide) (u_108 (e := e8) (d := d8) (n := n8) hW gx ecu gcu q3891 g3892 ece8 gce8 (by assumption) (by assumption) (by omega) (by omega) (by omega) (by omega) hcu8 hcen8 hhdr8) (fun R3893 T3894 H3895 p3896 => ?_))
  obtain ⟨e3897, w3899, f3900, z3901, e3898, b3902, p3903⟩ := p3896
  subst e3897
  subst e3898
  show WL _ _ _ _ 948 [(4, vI i), (3, .ref o), (2, .ref m), (1, .ref x), (0, .ref 0)] [vL z3901] _ H3895
  refine wl_of hX hb cL_948 (rw_pop2 (pc' := 949) rfl rfl ?_)
  refine wl_of hX hb cL_949 (rw_aload_n (pc' := 950) (v := .ref m) rfl rfl rfl ?_)
  have k3905 : wKI H3895 m = wKI H m := (wKI_fr hW gm f3900 rfl)
  have k3906 : H3895 x 9 = H x 9 := (f3900 x 9 _ gx rfl)
  have k3907 : H3895 m 6 = H m 6 := (f3900 m 6 _ gm rfl)
  have k3908 : H3895 x 11 = H x 11 := (f3900 x 11 _ gx rfl)
  have k3909 : H3895 m 13 = H m 13 := (f3900 m 13 _ gm rfl)
  have k3910 : H3895 x 8 = H x 8 := (f3900 x 8 _ gx rfl)
  have k3911 : H3895 m 3 = H m 3 := (f3900 m 3 _ gm rfl)
  have h3912 : RB T H3895 m e8 d8 := (RB_fr hW gm f3900 rfl hrb8)
  have h3913 : KNN T H3895 m e8 d8 := (KNN_fr hW gm f3900 rfl hknn8)
  refine wl_of hX hb cL_950 (xc_V (pc' := 953) (r := m) (as := []) (st := []) (lm_11_125) rfl rfl (Nat.le_of_ble_eq_true rfl) w3899 gm sh_42 (by decide) rfl (by decide) (u_258 (e := e8) (d := d8) w3899 gm (by omega) (by assumption) (by assumption) (by assumption) (by assumption) h3912 h3913) (fun R3914 T3915 H3916 p3917 => ?_))
  obtain ⟨e3918, w3920, f3921, z3922, e3919, b3923, p3924⟩ := p3917
  subst e3918
  subst e3919
  obtain ⟨a3925, a3926⟩ := p3924
  show WL _ _ _ _ 953 [(4, vI i), (3, .ref o), (2, .ref m), (1, .ref x), (0, .ref 0)] [vL z3922] _ H3916
  refine wl_of hX hb cL_953 (rw_pop2 (pc' := 954) rfl rfl ?_)
  refine wl_of hX hb cL_954 (rw_goto (p1 := 1653) (by decide) ?_)
  have k3927 : H3916 x 9 = H3895 x 9 := (f3921 x 9 _ gx rfl)
  have k3928 : H3916 m 6 = H3895 m 6 := (f3921 m 6 _ gm rfl)
  have k3929 : H3916 x 11 = H3895 x 11 := (f3921 x 11 _ gx rfl)
  have k3930 : H3916 m 13 = H3895 m 13 := (f3921 m 13 _ gm rfl)
  have k3931 : H3916 x 8 = H3895 x 8 := (f3921 x 8 _ gx rfl)
  have k3932 : H3916 m 3 = H3895 m 3 := (f3921 m 3 _ gm rfl)
  have k3933 : H3916 x 0 = H x 0 := ((f3921 x 0 _ gx rfl).trans (f3900 x 0 _ gx rfl))
  have q3934 : H3916 x 0 = (tc : Int) := k3933.trans e0
  have k3935 : H3916 m 5 = H m 5 := ((f3921 m 5 _ gm rfl).trans (f3900 m 5 _ gm rfl))
  have q3936 : H3916 m 5 = (tm : Int) := k3935.trans em
  have k3937 : H3916 x 6 = H x 6 := ((f3921 x 6 _ gx rfl).trans (f3900 x 6 _ gx rfl))
  have q3938 : H3916 x 6 = (cu : Int) := k3937.trans ecu
  have k3939 : H3916 x 7 = H x 7 := ((f3921 x 7 _ gx rfl).trans (f3900 x 7 _ gx rfl))
  have q3940 : H3916 x 7 = (dr : Int) := k3939.trans edr
  have h3941 : CEN T H3916 ce8 e8 d8 := (CEN_fr w3899 gce8 f3921 rfl p3903)
  have h3942 : TP T H3916 tc B := (TP_fr w3899 gtc f3921 rfl (TP_fr hW gtc f3900 rfl htc))
  have h3943 : TM T H3916 tm B := (TM_fr w3899 gtm f3921 rfl (TM_fr hW gtm f3900 rfl htm))
  have h3944 : DD T H3916 cu  := (DD_fr w3899 gcu f3921 rfl (DD_fr hW gcu f3900 rfl hcu))
  have h3945 : DD T H3916 dr  := (DD_fr w3899 gdr f3921 rfl (DD_fr hW gdr f3900 rfl hdr))
  have h3946 : DE T H3916 cu  := (DE_fr w3899 gcu f3921 rfl (DE_fr hW gcu f3900 rfl hdec))
  have h3947 : DE T H3916 dr  := (DE_fr w3899 gdr f3921 rfl (DE_fr hW gdr f3900 rfl hded))
  have h3948 : SP T H3916 x C8 := (SP_fr w3899 gx f3921 rfl (SP_fr hW gx f3900 rfl hsp))
  have h3949 : CU T H3916 cu e8 d8 n8 := (CU_fr w3899 gcu f3921 rfl (CU_fr hW gcu f3900 rfl hcu8))
  have h3950 : CY T H3916 cu (d8 0 3) g8 (H cu 17) := (CY_fr w3899 gcu f3921 rfl (CY_fr hW gcu f3900 rfl h3888))
  have k3951 : H3916 x 3 = H x 3 := ((f3921 x 3 _ gx rfl).trans (f3900 x 3 _ gx rfl))
  have q3952 : H3916 x 3 = (ce8 : Int) := k3951.trans ece8
  have h3953 : HDR T H3916 ce8  := (HDR_fr w3899 gce8 f3921 rfl (HDR_fr hW gce8 f3900 rfl hhdr8))
  have h3954 : RY T H3916 m (d8 0 3) g8 (H m 32) := (RY_fr w3899 gm f3921 rfl (RY_fr hW gm f3900 rfl h3889))
  have h3955 : RB T H3916 m e8 d8 := (RB_fr w3899 gm f3921 rfl h3912)
  exact WL.loc hX (by simp) (next T H3916 ⟨⟨w3920, g0, gx, gm, go, by omega, by omega⟩, ⟨_, tc, tm, cu, dr, _, _, _, _, _, ce8, q3934, gtc, h3942, q3936, gtm, h3943, q3938, gcu, q3940, gdr, h3944, h3945, h3946, h3947, h3948, hC1, hC2, h3949, h3955, (h3950).1, (h3954).1, hE, hZ, (by omega), (by assumption), (by omega), (by first | assumption | exact SG_0), q3952, gce8, h3941, h3953, a3926, gm⟩, by omega, by omega⟩ (by omega) (by omega))
set_option maxHeartbeats 4000000 in
theorem wl_c25 {kt : Nat → Option mc_E} {CB SB : Nat} {X : mc_S → Prop} {T : wq_T} {H : wq_H} {Len x m o : Nat} {i : Int} (hX : wlX kt CB SB X) (hb : T.2.1 ≤ CB ∧ T.2.2.1 ≤ SB) (hI : wlJ Len x m o T H) (hL : Len ≤ 3072) (hi : 0 ≤ i ∧ i + 6 ≤ Len) (hb2 : T.2.1 + 20 ≤ CB ∧ T.2.2.1 + 500 ≤ SB)  (next : ∀ T' H', wlJ Len x m o T' H' → T'.2.1 ≤ T.2.1 + 20 → T'.2.2.1 ≤ T.2.2.1 + 500 → WL kt CB SB X 1653 (wlL i x m o) [] T' H') : WL kt CB SB X 957 (wlL i x m o) [] T H := by
  obtain ⟨⟨hW, g0, gx, gm, go, hK, hr⟩, hXI, hY1, hY2⟩ := hI
  refine wl_of hX hb cL_957 (rw_aload_n (pc' := 958) (v := .ref x) rfl rfl rfl ?_)
  refine wl_of hX hb cL_958 (rw_aload_n (pc' := 959) (v := .ref 0) rfl rfl rfl ?_)
  refine wl_of hX hb cL_959 (rw_iload (pc' := 961) (z := i) rfl rfl ?_)
  refine wl_of hX hb cL_961 (rw_iconst (pc' := 962) rfl ?_)
  refine wl_of hX hb cL_962 (rw_iadd (pc' := 963) rfl ?_)
  refine wl_of hX hb cL_963 (xa_I (so := 0) (pc' := 964) (a := 0) hW g0 (wsh_s _) (by omega) (wty_s _ _) (by omega) (by omega) rfl (fun b3956 b3957 => ?_))
  refine wl_of hX hb cL_964 (rw_aload_n (pc' := 965) (v := .ref 0) rfl rfl rfl ?_)
  refine wl_of hX hb cL_965 (rw_iload (pc' := 967) (z := i) rfl rfl ?_)
  refine wl_of hX hb cL_967 (rw_iconst (pc' := 968) rfl ?_)
  refine wl_of hX hb cL_968 (rw_iadd (pc' := 969) rfl ?_)
  refine wl_of hX hb cL_969 (xa_I (so := 0) (pc' := 970) (a := 0) hW g0 (wsh_s _) (by omega) (wty_s _ _) (by omega) (by omega) rfl (fun b3958 b3959 => ?_))
  obtain ⟨B, tc, tm, cu, dr, C8, e8, d8, n8, g8, ce8, e0, gtc, htc, em, gtm, htm, ecu, gcu, edr, gdr, hcu, hdr, hdec, hded, hsp, hC1, hC2, hcu8, hrb8, hcg8, hmn8, hE, hZ, hn8, hXA, hV8, hSG, ece8, gce8, hcen8, hhdr8, hknn8, -⟩ := hXI
  have hN3 := RB_n3 hrb8
  have hE13 : ∀ h : Nat, h < 24 → 0 ≤ e8 13 h ∧ e8 13 h ≤ 100 := fun k hk => by
    obtain ⟨s, h1, h2, h3⟩ := hcu8.1.2.2.1
    exact ⟨(h3 k hk).1, (h3 k hk).2.1⟩
  have hXW := hXA.1
  have hXN := hXA.2
  have hE0 : e8 0 3 = d8 0 3 ∧ e8 0 0 = d8 0 0 := by
    have h := hE 0 (by decide)
    exact ⟨congrFun h 3, congrFun h 0⟩
  have u3960 := CU_k hcu8
  have h3961 : CY T H cu (d8 0 3) g8 (H cu 17) := ⟨hcg8, rfl⟩
  have h3962 : RY T H m (d8 0 3) g8 (H m 32) := ⟨hmn8, rfl⟩
  obtain ⟨t9, ht9⟩ : ∃ t : Int, t = H x 9 := ⟨_, rfl⟩
  obtain ⟨y9, hy9⟩ : ∃ y : Int, y = H 0 ((i + 2).toNat) := ⟨_, rfl⟩
  obtain ⟨r3963, q3964, g3965⟩ := hW.ref gx (t' := 6) (n := 13) (j := 2) (p := 0) (q := 0) rfl (by decide) rfl
  refine wl_of hX hb cL_970 (xc_V (pc' := 973) (r := x) (as := [vI (H 0 ((i + 1).toNat)), vI (H 0 ((i + 2).toNat))]) (st := []) (lm_11_126) rfl rfl (Nat.le_of_ble_eq_true rfl) hW gx sh_1 (by decide) rfl (by decide) (u_109 (e := e8) (d := d8) (n := n8) hW gx ⟨by omega, by omega⟩ ⟨by omega, by omega⟩ ecu gcu q3964 g3965 ece8 gce8 (by assumption) (by assumption) (by omega) (by omega) (by omega) (by omega) hcu8 hcen8 hhdr8) (fun R3966 T3967 H3968 p3969 => ?_))
  obtain ⟨e3970, w3972, f3973, z3974, e3971, b3975, p3976⟩ := p3969
  subst e3970
  subst e3971
  show WL _ _ _ _ 973 [(4, vI i), (3, .ref o), (2, .ref m), (1, .ref x), (0, .ref 0)] [vI z3974] _ H3968
  refine wl_of hX hb cL_973 (rw_pop (pc' := 974) rfl rfl ?_)
  refine wl_of hX hb cL_974 (rw_aload_n (pc' := 975) (v := .ref m) rfl rfl rfl ?_)
  refine wl_of hX hb cL_975 (rw_aload_n (pc' := 976) (v := .ref 0) rfl rfl rfl ?_)
  refine wl_of hX hb cL_976 (rw_iload (pc' := 978) (z := i) rfl rfl ?_)
  refine wl_of hX hb cL_978 (rw_iconst (pc' := 979) rfl ?_)
  refine wl_of hX hb cL_979 (rw_iadd (pc' := 980) rfl ?_)
  have k3980 : H3968 0 ((i + 1).toNat) = H 0 ((i + 1).toNat) := (f3973 0 ((i + 1).toNat) _ g0 (wmem_s rfl))
  refine wl_of hX hb cL_980 (xa_I (so := 0) (pc' := 981) (a := 0) w3972 g0 (wsh_s _) (by omega) (wty_s _ _) (by omega) (by omega) rfl (fun b3978 b3979 => ?_))
  refine wl_of hX hb cL_981 (rw_aload_n (pc' := 982) (v := .ref 0) rfl rfl rfl ?_)
  refine wl_of hX hb cL_982 (rw_iload (pc' := 984) (z := i) rfl rfl ?_)
  refine wl_of hX hb cL_984 (rw_iconst (pc' := 985) rfl ?_)
  refine wl_of hX hb cL_985 (rw_iadd (pc' := 986) rfl ?_)
  have k3983 : H3968 0 ((i + 2).toNat) = H 0 ((i + 2).toNat) := (f3973 0 ((i + 2).toNat) _ g0 (wmem_s rfl))
  refine wl_of hX hb cL_986 (xa_I (so := 0) (pc' := 987) (a := 0) w3972 g0 (wsh_s _) (by omega) (wty_s _ _) (by omega) (by omega) rfl (fun b3981 b3982 => ?_))
  have k3984 : wKI H3968 m = wKI H m := (wKI_fr hW gm f3973 rfl)
  have k3985 : H3968 x 9 = H x 9 := (f3973 x 9 _ gx rfl)
  have k3986 : H3968 m 6 = H m 6 := (f3973 m 6 _ gm rfl)
  have k3987 : H3968 x 11 = H x 11 := (f3973 x 11 _ gx rfl)
  have k3988 : H3968 m 13 = H m 13 := (f3973 m 13 _ gm rfl)
  have k3989 : H3968 x 8 = H x 8 := (f3973 x 8 _ gx rfl)
  have k3990 : H3968 m 3 = H m 3 := (f3973 m 3 _ gm rfl)
  rw [show H3968 0 ((i + 2).toNat) = H 0 ((i + 2).toNat) by omega]
  rw [show H3968 0 ((i + 1).toNat) = H 0 ((i + 1).toNat) by omega]
  have h3991 : RB T H3968 m e8 d8 := (RB_fr hW gm f3973 rfl hrb8)
  have h3992 : KNN T H3968 m e8 d8 := (KNN_fr hW gm f3973 rfl hknn8)
  refine wl_of hX hb cL_987 (xc_V (pc' := 990) (r := m) (as := [vI (H 0 ((i + 1).toNat)), vI (H 0 ((i + 2).toNat))]) (st := []) (lm_11_129) rfl rfl (Nat.le_of_ble_eq_true rfl) w3972 gm sh_42 (by decide) rfl (by decide) (u_259 (e := e8) (d := d8) w3972 gm ⟨by omega, by omega⟩ ⟨by omega, by omega⟩ (by omega) (by assumption) (by assumption) (by assumption) (by assumption) h3991 h3992) (fun R3993 T3994 H3995 p3996 => ?_))
  obtain ⟨e3997, w3999, f4000, z4001, e3998, b4002, p4003⟩ := p3996
  subst e3997
  subst e3998
  obtain ⟨a4004, a4005⟩ := p4003
  show WL _ _ _ _ 990 [(4, vI i), (3, .ref o), (2, .ref m), (1, .ref x), (0, .ref 0)] [vI z4001] _ H3995
  refine wl_of hX hb cL_990 (rw_pop (pc' := 991) rfl rfl ?_)
  refine wl_of hX hb cL_991 (rw_goto (p1 := 1653) (by decide) ?_)
  have k4006 : H3995 x 9 = H3968 x 9 := (f4000 x 9 _ gx rfl)
  have k4007 : H3995 m 6 = H3968 m 6 := (f4000 m 6 _ gm rfl)
  have k4008 : H3995 x 11 = H3968 x 11 := (f4000 x 11 _ gx rfl)
  have k4009 : H3995 m 13 = H3968 m 13 := (f4000 m 13 _ gm rfl)
  have k4010 : H3995 x 8 = H3968 x 8 := (f4000 x 8 _ gx rfl)
  have k4011 : H3995 m 3 = H3968 m 3 := (f4000 m 3 _ gm rfl)
  have k4012 : H3995 x 0 = H x 0 := ((f4000 x 0 _ gx rfl).trans (f3973 x 0 _ gx rfl))
  have q4013 : H3995 x 0 = (tc : Int) := k4012.trans e0
  have k4014 : H3995 m 5 = H m 5 := ((f4000 m 5 _ gm rfl).trans (f3973 m 5 _ gm rfl))
  have q4015 : H3995 m 5 = (tm : Int) := k4014.trans em
  have k4016 : H3995 x 6 = H x 6 := ((f4000 x 6 _ gx rfl).trans (f3973 x 6 _ gx rfl))
  have q4017 : H3995 x 6 = (cu : Int) := k4016.trans ecu
  have k4018 : H3995 x 7 = H x 7 := ((f4000 x 7 _ gx rfl).trans (f3973 x 7 _ gx rfl))
  have q4019 : H3995 x 7 = (dr : Int) := k4018.trans edr
  have h4020 : CEN T H3995 ce8 e8 d8 := (CEN_fr w3972 gce8 f4000 rfl p3976)
  have h4021 : TP T H3995 tc B := (TP_fr w3972 gtc f4000 rfl (TP_fr hW gtc f3973 rfl htc))
  have h4022 : TM T H3995 tm B := (TM_fr w3972 gtm f4000 rfl (TM_fr hW gtm f3973 rfl htm))
  have h4023 : DD T H3995 cu  := (DD_fr w3972 gcu f4000 rfl (DD_fr hW gcu f3973 rfl hcu))
  have h4024 : DD T H3995 dr  := (DD_fr w3972 gdr f4000 rfl (DD_fr hW gdr f3973 rfl hdr))
  have h4025 : DE T H3995 cu  := (DE_fr w3972 gcu f4000 rfl (DE_fr hW gcu f3973 rfl hdec))
  have h4026 : DE T H3995 dr  := (DE_fr w3972 gdr f4000 rfl (DE_fr hW gdr f3973 rfl hded))
  have h4027 : SP T H3995 x C8 := (SP_fr w3972 gx f4000 rfl (SP_fr hW gx f3973 rfl hsp))
  have h4028 : CU T H3995 cu e8 d8 n8 := (CU_fr w3972 gcu f4000 rfl (CU_fr hW gcu f3973 rfl hcu8))
  have h4029 : CY T H3995 cu (d8 0 3) g8 (H cu 17) := (CY_fr w3972 gcu f4000 rfl (CY_fr hW gcu f3973 rfl h3961))
  have k4030 : H3995 x 3 = H x 3 := ((f4000 x 3 _ gx rfl).trans (f3973 x 3 _ gx rfl))
  have q4031 : H3995 x 3 = (ce8 : Int) := k4030.trans ece8
  have h4032 : HDR T H3995 ce8  := (HDR_fr w3972 gce8 f4000 rfl (HDR_fr hW gce8 f3973 rfl hhdr8))
  have h4033 : RY T H3995 m (d8 0 3) g8 (H m 32) := (RY_fr w3972 gm f4000 rfl (RY_fr hW gm f3973 rfl h3962))
  have h4034 : RB T H3995 m e8 d8 := (RB_fr w3972 gm f4000 rfl h3991)
  exact WL.loc hX (by simp) (next T H3995 ⟨⟨w3999, g0, gx, gm, go, by omega, by omega⟩, ⟨_, tc, tm, cu, dr, _, _, _, _, _, ce8, q4013, gtc, h4021, q4015, gtm, h4022, q4017, gcu, q4019, gdr, h4023, h4024, h4025, h4026, h4027, hC1, hC2, h4028, h4034, (h4029).1, (h4033).1, hE, hZ, (by omega), (by assumption), (by omega), (by first | assumption | exact SG_0), q4031, gce8, h4020, h4032, a4005, gm⟩, by omega, by omega⟩ (by omega) (by omega))
set_option maxHeartbeats 4000000 in
theorem wl_c26 {kt : Nat → Option mc_E} {CB SB : Nat} {X : mc_S → Prop} {T : wq_T} {H : wq_H} {Len x m o : Nat} {i : Int} (hX : wlX kt CB SB X) (hb : T.2.1 ≤ CB ∧ T.2.2.1 ≤ SB) (hI : wlJ Len x m o T H) (hL : Len ≤ 3072) (hi : 0 ≤ i ∧ i + 6 ≤ Len) (hb2 : T.2.1 + 20 ≤ CB ∧ T.2.2.1 + 500 ≤ SB)  (next : ∀ T' H', wlJ Len x m o T' H' → T'.2.1 ≤ T.2.1 + 20 → T'.2.2.1 ≤ T.2.2.1 + 500 → WL kt CB SB X 1653 (wlL i x m o) [] T' H') : WL kt CB SB X 994 (wlL i x m o) [] T H := by
  obtain ⟨⟨hW, g0, gx, gm, go, hK, hr⟩, hXI, hY1, hY2⟩ := hI
  refine wl_of hX hb cL_994 (rw_aload_n (pc' := 995) (v := .ref x) rfl rfl rfl ?_)
  refine wl_of hX hb cL_995 (rw_aload_n (pc' := 996) (v := .ref 0) rfl rfl rfl ?_)
  refine wl_of hX hb cL_996 (rw_iload (pc' := 998) (z := i) rfl rfl ?_)
  refine wl_of hX hb cL_998 (rw_iconst (pc' := 999) rfl ?_)
  refine wl_of hX hb cL_999 (rw_iadd (pc' := 1000) rfl ?_)
  refine wl_of hX hb cL_1000 (xa_I (so := 0) (pc' := 1001) (a := 0) hW g0 (wsh_s _) (by omega) (wty_s _ _) (by omega) (by omega) rfl (fun b4035 b4036 => ?_))
  obtain ⟨B, tc, tm, cu, dr, C8, e8, d8, n8, g8, ce8, e0, gtc, htc, em, gtm, htm, ecu, gcu, edr, gdr, hcu, hdr, hdec, hded, hsp, hC1, hC2, hcu8, hrb8, hcg8, hmn8, hE, hZ, hn8, hXA, hV8, hSG, ece8, gce8, hcen8, hhdr8, hknn8, -⟩ := hXI
  have hN3 := RB_n3 hrb8
  have hE13 : ∀ h : Nat, h < 24 → 0 ≤ e8 13 h ∧ e8 13 h ≤ 100 := fun k hk => by
    obtain ⟨s, h1, h2, h3⟩ := hcu8.1.2.2.1
    exact ⟨(h3 k hk).1, (h3 k hk).2.1⟩
  have hXW := hXA.1
  have hXN := hXA.2
  have hE0 : e8 0 3 = d8 0 3 ∧ e8 0 0 = d8 0 0 := by
    have h := hE 0 (by decide)
    exact ⟨congrFun h 3, congrFun h 0⟩
  have u4037 := CU_k hcu8
  have h4038 : CY T H cu (d8 0 3) g8 (H cu 17) := ⟨hcg8, rfl⟩
  have h4039 : RY T H m (d8 0 3) g8 (H m 32) := ⟨hmn8, rfl⟩
  obtain ⟨t9, ht9⟩ : ∃ t : Int, t = H x 9 := ⟨_, rfl⟩
  obtain ⟨y9, hy9⟩ : ∃ y : Int, y = H 0 ((i + 1).toNat) := ⟨_, rfl⟩
  obtain ⟨r4040, q4041, g4042⟩ := hW.ref gx (t' := 6) (n := 13) (j := 2) (p := 0) (q := 0) rfl (by decide) rfl
  refine wl_of hX hb cL_1001 (xc_V (pc' := 1004) (r := x) (as := [vI (H 0 ((i + 1).toNat))]) (st := []) (lm_11_130) rfl rfl (Nat.le_of_ble_eq_true rfl) hW gx sh_1 (by decide) rfl (by decide) (u_112 (e := e8) (d := d8) (n := n8) hW gx ⟨by omega, by omega⟩ ecu gcu q4041 g4042 ece8 gce8 (by assumption) (by assumption) (by omega) (by omega) (by omega) (by omega) hcu8 hcen8 hhdr8) (fun R4043 T4044 H4045 p4046 => ?_))
  obtain ⟨e4047, w4049, f4050, z4051, e4048, b4052, p4053⟩ := p4046
  subst e4047
  subst e4048
  show WL _ _ _ _ 1004 [(4, vI i), (3, .ref o), (2, .ref m), (1, .ref x), (0, .ref 0)] [vL z4051] _ H4045
  refine wl_of hX hb cL_1004 (rw_pop2 (pc' := 1005) rfl rfl ?_)
  refine wl_of hX hb cL_1005 (rw_aload_n (pc' := 1006) (v := .ref m) rfl rfl rfl ?_)
  refine wl_of hX hb cL_1006 (rw_aload_n (pc' := 1007) (v := .ref 0) rfl rfl rfl ?_)
  refine wl_of hX hb cL_1007 (rw_iload (pc' := 1009) (z := i) rfl rfl ?_)
  refine wl_of hX hb cL_1009 (rw_iconst (pc' := 1010) rfl ?_)
  refine wl_of hX hb cL_1010 (rw_iadd (pc' := 1011) rfl ?_)
  have k4057 : H4045 0 ((i + 1).toNat) = H 0 ((i + 1).toNat) := (f4050 0 ((i + 1).toNat) _ g0 (wmem_s rfl))
  refine wl_of hX hb cL_1011 (xa_I (so := 0) (pc' := 1012) (a := 0) w4049 g0 (wsh_s _) (by omega) (wty_s _ _) (by omega) (by omega) rfl (fun b4055 b4056 => ?_))
  have k4058 : wKI H4045 m = wKI H m := (wKI_fr hW gm f4050 rfl)
  have k4059 : H4045 x 9 = H x 9 := (f4050 x 9 _ gx rfl)
  have k4060 : H4045 m 6 = H m 6 := (f4050 m 6 _ gm rfl)
  have k4061 : H4045 x 11 = H x 11 := (f4050 x 11 _ gx rfl)
  have k4062 : H4045 m 13 = H m 13 := (f4050 m 13 _ gm rfl)
  have k4063 : H4045 x 8 = H x 8 := (f4050 x 8 _ gx rfl)
  have k4064 : H4045 m 3 = H m 3 := (f4050 m 3 _ gm rfl)
  rw [show H4045 0 ((i + 1).toNat) = H 0 ((i + 1).toNat) by omega]
  have h4065 : RB T H4045 m e8 d8 := (RB_fr hW gm f4050 rfl hrb8)
  have h4066 : KNN T H4045 m e8 d8 := (KNN_fr hW gm f4050 rfl hknn8)
  refine wl_of hX hb cL_1012 (xc_V (pc' := 1015) (r := m) (as := [vI (H 0 ((i + 1).toNat))]) (st := []) (lm_11_134) rfl rfl (Nat.le_of_ble_eq_true rfl) w4049 gm sh_42 (by decide) rfl (by decide) (u_260 (e := e8) (d := d8) w4049 gm ⟨by omega, by omega⟩ (by omega) (by assumption) (by assumption) (by assumption) (by assumption) h4065 h4066) (fun R4067 T4068 H4069 p4070 => ?_))
  obtain ⟨e4071, w4073, f4074, z4075, e4072, b4076, p4077⟩ := p4070
  subst e4071
  subst e4072
  obtain ⟨a4078, a4079⟩ := p4077
  show WL _ _ _ _ 1015 [(4, vI i), (3, .ref o), (2, .ref m), (1, .ref x), (0, .ref 0)] [vL z4075] _ H4069
  refine wl_of hX hb cL_1015 (rw_pop2 (pc' := 1016) rfl rfl ?_)
  refine wl_of hX hb cL_1016 (rw_goto (p1 := 1653) (by decide) ?_)
  have k4080 : H4069 x 9 = H4045 x 9 := (f4074 x 9 _ gx rfl)
  have k4081 : H4069 m 6 = H4045 m 6 := (f4074 m 6 _ gm rfl)
  have k4082 : H4069 x 11 = H4045 x 11 := (f4074 x 11 _ gx rfl)
  have k4083 : H4069 m 13 = H4045 m 13 := (f4074 m 13 _ gm rfl)
  have k4084 : H4069 x 8 = H4045 x 8 := (f4074 x 8 _ gx rfl)
  have k4085 : H4069 m 3 = H4045 m 3 := (f4074 m 3 _ gm rfl)
  have k4086 : H4069 x 0 = H x 0 := ((f4074 x 0 _ gx rfl).trans (f4050 x 0 _ gx rfl))
  have q4087 : H4069 x 0 = (tc : Int) := k4086.trans e0
  have k4088 : H4069 m 5 = H m 5 := ((f4074 m 5 _ gm rfl).trans (f4050 m 5 _ gm rfl))
  have q4089 : H4069 m 5 = (tm : Int) := k4088.trans em
  have k4090 : H4069 x 6 = H x 6 := ((f4074 x 6 _ gx rfl).trans (f4050 x 6 _ gx rfl))
  have q4091 : H4069 x 6 = (cu : Int) := k4090.trans ecu
  have k4092 : H4069 x 7 = H x 7 := ((f4074 x 7 _ gx rfl).trans (f4050 x 7 _ gx rfl))
  have q4093 : H4069 x 7 = (dr : Int) := k4092.trans edr
  have h4094 : CEN T H4069 ce8 e8 d8 := (CEN_fr w4049 gce8 f4074 rfl p4053)
  have h4095 : TP T H4069 tc B := (TP_fr w4049 gtc f4074 rfl (TP_fr hW gtc f4050 rfl htc))
  have h4096 : TM T H4069 tm B := (TM_fr w4049 gtm f4074 rfl (TM_fr hW gtm f4050 rfl htm))
  have h4097 : DD T H4069 cu  := (DD_fr w4049 gcu f4074 rfl (DD_fr hW gcu f4050 rfl hcu))
  have h4098 : DD T H4069 dr  := (DD_fr w4049 gdr f4074 rfl (DD_fr hW gdr f4050 rfl hdr))
  have h4099 : DE T H4069 cu  := (DE_fr w4049 gcu f4074 rfl (DE_fr hW gcu f4050 rfl hdec))
  have h4100 : DE T H4069 dr  := (DE_fr w4049 gdr f4074 rfl (DE_fr hW gdr f4050 rfl hded))
  have h4101 : SP T H4069 x C8 := (SP_fr w4049 gx f4074 rfl (SP_fr hW gx f4050 rfl hsp))
  have h4102 : CU T H4069 cu e8 d8 n8 := (CU_fr w4049 gcu f4074 rfl (CU_fr hW gcu f4050 rfl hcu8))
  have h4103 : CY T H4069 cu (d8 0 3) g8 (H cu 17) := (CY_fr w4049 gcu f4074 rfl (CY_fr hW gcu f4050 rfl h4038))
  have k4104 : H4069 x 3 = H x 3 := ((f4074 x 3 _ gx rfl).trans (f4050 x 3 _ gx rfl))
  have q4105 : H4069 x 3 = (ce8 : Int) := k4104.trans ece8
  have h4106 : HDR T H4069 ce8  := (HDR_fr w4049 gce8 f4074 rfl (HDR_fr hW gce8 f4050 rfl hhdr8))
  have h4107 : RY T H4069 m (d8 0 3) g8 (H m 32) := (RY_fr w4049 gm f4074 rfl (RY_fr hW gm f4050 rfl h4039))
  have h4108 : RB T H4069 m e8 d8 := (RB_fr w4049 gm f4074 rfl h4065)
  exact WL.loc hX (by simp) (next T H4069 ⟨⟨w4073, g0, gx, gm, go, by omega, by omega⟩, ⟨_, tc, tm, cu, dr, _, _, _, _, _, ce8, q4087, gtc, h4095, q4089, gtm, h4096, q4091, gcu, q4093, gdr, h4097, h4098, h4099, h4100, h4101, hC1, hC2, h4102, h4108, (h4103).1, (h4107).1, hE, hZ, (by omega), (by assumption), (by omega), (by first | assumption | exact SG_0), q4105, gce8, h4094, h4106, a4079, gm⟩, by omega, by omega⟩ (by omega) (by omega))
set_option maxHeartbeats 4000000 in
theorem wl_c27 {kt : Nat → Option mc_E} {CB SB : Nat} {X : mc_S → Prop} {T : wq_T} {H : wq_H} {Len x m o : Nat} {i : Int} (hX : wlX kt CB SB X) (hb : T.2.1 ≤ CB ∧ T.2.2.1 ≤ SB) (hI : wlJ Len x m o T H) (hL : Len ≤ 3072) (hi : 0 ≤ i ∧ i + 6 ≤ Len) (hb2 : T.2.1 + 20 ≤ CB ∧ T.2.2.1 + 500 ≤ SB)  (next : ∀ T' H', wlJ Len x m o T' H' → T'.2.1 ≤ T.2.1 + 20 → T'.2.2.1 ≤ T.2.2.1 + 500 → WL kt CB SB X 1653 (wlL i x m o) [] T' H') : WL kt CB SB X 1019 (wlL i x m o) [] T H := by
  obtain ⟨⟨hW, g0, gx, gm, go, hK, hr⟩, hXI, hY1, hY2⟩ := hI
  refine wl_of hX hb cL_1019 (rw_aload_n (pc' := 1020) (v := .ref x) rfl rfl rfl ?_)
  refine wl_of hX hb cL_1020 (rw_aload_n (pc' := 1021) (v := .ref 0) rfl rfl rfl ?_)
  refine wl_of hX hb cL_1021 (rw_iload (pc' := 1023) (z := i) rfl rfl ?_)
  refine wl_of hX hb cL_1023 (rw_iconst (pc' := 1024) rfl ?_)
  refine wl_of hX hb cL_1024 (rw_iadd (pc' := 1025) rfl ?_)
  refine wl_of hX hb cL_1025 (xa_I (so := 0) (pc' := 1026) (a := 0) hW g0 (wsh_s _) (by omega) (wty_s _ _) (by omega) (by omega) rfl (fun b4109 b4110 => ?_))
  refine wl_of hX hb cL_1026 (rw_aload_n (pc' := 1027) (v := .ref 0) rfl rfl rfl ?_)
  refine wl_of hX hb cL_1027 (rw_iload (pc' := 1029) (z := i) rfl rfl ?_)
  refine wl_of hX hb cL_1029 (rw_iconst (pc' := 1030) rfl ?_)
  refine wl_of hX hb cL_1030 (rw_iadd (pc' := 1031) rfl ?_)
  refine wl_of hX hb cL_1031 (xa_I (so := 0) (pc' := 1032) (a := 0) hW g0 (wsh_s _) (by omega) (wty_s _ _) (by omega) (by omega) rfl (fun b4111 b4112 => ?_))
  obtain ⟨B, tc, tm, cu, dr, C8, e8, d8, n8, g8, ce8, e0, gtc, htc, em, gtm, htm, ecu, gcu, edr, gdr, hcu, hdr, hdec, hded, hsp, hC1, hC2, hcu8, hrb8, hcg8, hmn8, hE, hZ, hn8, hXA, hV8, hSG, ece8, gce8, hcen8, hhdr8, hknn8, -⟩ := hXI
  have hN3 := RB_n3 hrb8
  have hE13 : ∀ h : Nat, h < 24 → 0 ≤ e8 13 h ∧ e8 13 h ≤ 100 := fun k hk => by
    obtain ⟨s, h1, h2, h3⟩ := hcu8.1.2.2.1
    exact ⟨(h3 k hk).1, (h3 k hk).2.1⟩
  have hXW := hXA.1
  have hXN := hXA.2
  have hE0 : e8 0 3 = d8 0 3 ∧ e8 0 0 = d8 0 0 := by
    have h := hE 0 (by decide)
    exact ⟨congrFun h 3, congrFun h 0⟩
  have u4113 := CU_k hcu8
  have h4114 : CY T H cu (d8 0 3) g8 (H cu 17) := ⟨hcg8, rfl⟩
  have h4115 : RY T H m (d8 0 3) g8 (H m 32) := ⟨hmn8, rfl⟩
  obtain ⟨t9, ht9⟩ : ∃ t : Int, t = H x 9 := ⟨_, rfl⟩
  obtain ⟨y9, hy9⟩ : ∃ y : Int, y = H 0 ((i + 2).toNat) := ⟨_, rfl⟩
  obtain ⟨r4116, q4117, g4118⟩ := hW.ref gx (t' := 6) (n := 13) (j := 2) (p := 0) (q := 0) rfl (by decide) rfl
  refine wl_of hX hb cL_1032 (xc_V (pc' := 1035) (r := x) (as := [vI (H 0 ((i + 1).toNat)), vI (H 0 ((i + 2).toNat))]) (st := []) (lm_11_135) rfl rfl (Nat.le_of_ble_eq_true rfl) hW gx sh_1 (by decide) rfl (by decide) (u_114 (e := e8) (d := d8) (n := n8) hW gx ⟨by omega, by omega⟩ ⟨by omega, by omega⟩ ecu gcu q4117 g4118 ece8 gce8 (by assumption) (by assumption) (by omega) (by omega) (by omega) (by omega) hcu8 hcen8 hhdr8) (fun R4119 T4120 H4121 p4122 => ?_))
  obtain ⟨e4123, w4125, f4126, z4127, e4124, b4128, p4129⟩ := p4122
  subst e4123
  subst e4124
  show WL _ _ _ _ 1035 [(4, vI i), (3, .ref o), (2, .ref m), (1, .ref x), (0, .ref 0)] [vI z4127] _ H4121
  refine wl_of hX hb cL_1035 (rw_pop (pc' := 1036) rfl rfl ?_)
  refine wl_of hX hb cL_1036 (rw_aload_n (pc' := 1037) (v := .ref m) rfl rfl rfl ?_)
  refine wl_of hX hb cL_1037 (rw_aload_n (pc' := 1038) (v := .ref 0) rfl rfl rfl ?_)
  refine wl_of hX hb cL_1038 (rw_iload (pc' := 1040) (z := i) rfl rfl ?_)
  refine wl_of hX hb cL_1040 (rw_iconst (pc' := 1041) rfl ?_)
  refine wl_of hX hb cL_1041 (rw_iadd (pc' := 1042) rfl ?_)
  have k4133 : H4121 0 ((i + 1).toNat) = H 0 ((i + 1).toNat) := (f4126 0 ((i + 1).toNat) _ g0 (wmem_s rfl))
  refine wl_of hX hb cL_1042 (xa_I (so := 0) (pc' := 1043) (a := 0) w4125 g0 (wsh_s _) (by omega) (wty_s _ _) (by omega) (by omega) rfl (fun b4131 b4132 => ?_))
  refine wl_of hX hb cL_1043 (rw_aload_n (pc' := 1044) (v := .ref 0) rfl rfl rfl ?_)
  refine wl_of hX hb cL_1044 (rw_iload (pc' := 1046) (z := i) rfl rfl ?_)
  refine wl_of hX hb cL_1046 (rw_iconst (pc' := 1047) rfl ?_)
  refine wl_of hX hb cL_1047 (rw_iadd (pc' := 1048) rfl ?_)
  have k4136 : H4121 0 ((i + 2).toNat) = H 0 ((i + 2).toNat) := (f4126 0 ((i + 2).toNat) _ g0 (wmem_s rfl))
  refine wl_of hX hb cL_1048 (xa_I (so := 0) (pc' := 1049) (a := 0) w4125 g0 (wsh_s _) (by omega) (wty_s _ _) (by omega) (by omega) rfl (fun b4134 b4135 => ?_))
  have k4137 : wKI H4121 m = wKI H m := (wKI_fr hW gm f4126 rfl)
  have k4138 : H4121 x 9 = H x 9 := (f4126 x 9 _ gx rfl)
  have k4139 : H4121 m 6 = H m 6 := (f4126 m 6 _ gm rfl)
  have k4140 : H4121 x 11 = H x 11 := (f4126 x 11 _ gx rfl)
  have k4141 : H4121 m 13 = H m 13 := (f4126 m 13 _ gm rfl)
  have k4142 : H4121 x 8 = H x 8 := (f4126 x 8 _ gx rfl)
  have k4143 : H4121 m 3 = H m 3 := (f4126 m 3 _ gm rfl)
  rw [show H4121 0 ((i + 2).toNat) = H 0 ((i + 2).toNat) by omega]
  rw [show H4121 0 ((i + 1).toNat) = H 0 ((i + 1).toNat) by omega]
  have h4144 : RB T H4121 m e8 d8 := (RB_fr hW gm f4126 rfl hrb8)
  have h4145 : KNN T H4121 m e8 d8 := (KNN_fr hW gm f4126 rfl hknn8)
  refine wl_of hX hb cL_1049 (xc_V (pc' := 1052) (r := m) (as := [vI (H 0 ((i + 1).toNat)), vI (H 0 ((i + 2).toNat))]) (st := []) (lm_11_138) rfl rfl (Nat.le_of_ble_eq_true rfl) w4125 gm sh_42 (by decide) rfl (by decide) (u_261 (e := e8) (d := d8) w4125 gm ⟨by omega, by omega⟩ ⟨by omega, by omega⟩ (by omega) (by assumption) (by assumption) (by assumption) (by assumption) h4144 h4145) (fun R4146 T4147 H4148 p4149 => ?_))
  obtain ⟨e4150, w4152, f4153, z4154, e4151, b4155, p4156⟩ := p4149
  subst e4150
  subst e4151
  obtain ⟨a4157, a4158⟩ := p4156
  show WL _ _ _ _ 1052 [(4, vI i), (3, .ref o), (2, .ref m), (1, .ref x), (0, .ref 0)] [vI z4154] _ H4148
  refine wl_of hX hb cL_1052 (rw_pop (pc' := 1053) rfl rfl ?_)
  refine wl_of hX hb cL_1053 (rw_goto (p1 := 1653) (by decide) ?_)
  have k4159 : H4148 x 9 = H4121 x 9 := (f4153 x 9 _ gx rfl)
  have k4160 : H4148 m 6 = H4121 m 6 := (f4153 m 6 _ gm rfl)
  have k4161 : H4148 x 11 = H4121 x 11 := (f4153 x 11 _ gx rfl)
  have k4162 : H4148 m 13 = H4121 m 13 := (f4153 m 13 _ gm rfl)
  have k4163 : H4148 x 8 = H4121 x 8 := (f4153 x 8 _ gx rfl)
  have k4164 : H4148 m 3 = H4121 m 3 := (f4153 m 3 _ gm rfl)
  have k4165 : H4148 x 0 = H x 0 := ((f4153 x 0 _ gx rfl).trans (f4126 x 0 _ gx rfl))
  have q4166 : H4148 x 0 = (tc : Int) := k4165.trans e0
  have k4167 : H4148 m 5 = H m 5 := ((f4153 m 5 _ gm rfl).trans (f4126 m 5 _ gm rfl))
  have q4168 : H4148 m 5 = (tm : Int) := k4167.trans em
  have k4169 : H4148 x 6 = H x 6 := ((f4153 x 6 _ gx rfl).trans (f4126 x 6 _ gx rfl))
  have q4170 : H4148 x 6 = (cu : Int) := k4169.trans ecu
  have k4171 : H4148 x 7 = H x 7 := ((f4153 x 7 _ gx rfl).trans (f4126 x 7 _ gx rfl))
  have q4172 : H4148 x 7 = (dr : Int) := k4171.trans edr
  have h4173 : CEN T H4148 ce8 e8 d8 := (CEN_fr w4125 gce8 f4153 rfl p4129)
  have h4174 : TP T H4148 tc B := (TP_fr w4125 gtc f4153 rfl (TP_fr hW gtc f4126 rfl htc))
  have h4175 : TM T H4148 tm B := (TM_fr w4125 gtm f4153 rfl (TM_fr hW gtm f4126 rfl htm))
  have h4176 : DD T H4148 cu  := (DD_fr w4125 gcu f4153 rfl (DD_fr hW gcu f4126 rfl hcu))
  have h4177 : DD T H4148 dr  := (DD_fr w4125 gdr f4153 rfl (DD_fr hW gdr f4126 rfl hdr))
  have h4178 : DE T H4148 cu  := (DE_fr w4125 gcu f4153 rfl (DE_fr hW gcu f4126 rfl hdec))
  have h4179 : DE T H4148 dr  := (DE_fr w4125 gdr f4153 rfl (DE_fr hW gdr f4126 rfl hded))
  have h4180 : SP T H4148 x C8 := (SP_fr w4125 gx f4153 rfl (SP_fr hW gx f4126 rfl hsp))
  have h4181 : CU T H4148 cu e8 d8 n8 := (CU_fr w4125 gcu f4153 rfl (CU_fr hW gcu f4126 rfl hcu8))
  have h4182 : CY T H4148 cu (d8 0 3) g8 (H cu 17) := (CY_fr w4125 gcu f4153 rfl (CY_fr hW gcu f4126 rfl h4114))
  have k4183 : H4148 x 3 = H x 3 := ((f4153 x 3 _ gx rfl).trans (f4126 x 3 _ gx rfl))
  have q4184 : H4148 x 3 = (ce8 : Int) := k4183.trans ece8
  have h4185 : HDR T H4148 ce8  := (HDR_fr w4125 gce8 f4153 rfl (HDR_fr hW gce8 f4126 rfl hhdr8))
  have h4186 : RY T H4148 m (d8 0 3) g8 (H m 32) := (RY_fr w4125 gm f4153 rfl (RY_fr hW gm f4126 rfl h4115))
  have h4187 : RB T H4148 m e8 d8 := (RB_fr w4125 gm f4153 rfl h4144)
  exact WL.loc hX (by simp) (next T H4148 ⟨⟨w4152, g0, gx, gm, go, by omega, by omega⟩, ⟨_, tc, tm, cu, dr, _, _, _, _, _, ce8, q4166, gtc, h4174, q4168, gtm, h4175, q4170, gcu, q4172, gdr, h4176, h4177, h4178, h4179, h4180, hC1, hC2, h4181, h4187, (h4182).1, (h4186).1, hE, hZ, (by omega), (by assumption), (by omega), (by first | assumption | exact SG_0), q4184, gce8, h4173, h4185, a4158, gm⟩, by omega, by omega⟩ (by omega) (by omega))
set_option maxHeartbeats 4000000 in
theorem wl_c28 {kt : Nat → Option mc_E} {CB SB : Nat} {X : mc_S → Prop} {T : wq_T} {H : wq_H} {Len x m o : Nat} {i : Int} (hX : wlX kt CB SB X) (hb : T.2.1 ≤ CB ∧ T.2.2.1 ≤ SB) (hI : wlJ Len x m o T H) (hL : Len ≤ 3072) (hi : 0 ≤ i ∧ i + 6 ≤ Len) (hb2 : T.2.1 + 20 ≤ CB ∧ T.2.2.1 + 500 ≤ SB)  (next : ∀ T' H', wlJ Len x m o T' H' → T'.2.1 ≤ T.2.1 + 20 → T'.2.2.1 ≤ T.2.2.1 + 500 → WL kt CB SB X 1653 (wlL i x m o) [] T' H') : WL kt CB SB X 1056 (wlL i x m o) [] T H := by
  obtain ⟨⟨hW, g0, gx, gm, go, hK, hr⟩, hXI, hY1, hY2⟩ := hI
  refine wl_of hX hb cL_1056 (rw_aload_n (pc' := 1057) (v := .ref x) rfl rfl rfl ?_)
  refine wl_of hX hb cL_1057 (rw_aload_n (pc' := 1058) (v := .ref 0) rfl rfl rfl ?_)
  refine wl_of hX hb cL_1058 (rw_iload (pc' := 1060) (z := i) rfl rfl ?_)
  refine wl_of hX hb cL_1060 (rw_iconst (pc' := 1061) rfl ?_)
  refine wl_of hX hb cL_1061 (rw_iadd (pc' := 1062) rfl ?_)
  refine wl_of hX hb cL_1062 (xa_I (so := 0) (pc' := 1063) (a := 0) hW g0 (wsh_s _) (by omega) (wty_s _ _) (by omega) (by omega) rfl (fun b4188 b4189 => ?_))
  refine wl_of hX hb cL_1063 (rw_aload_n (pc' := 1064) (v := .ref 0) rfl rfl rfl ?_)
  refine wl_of hX hb cL_1064 (rw_iload (pc' := 1066) (z := i) rfl rfl ?_)
  refine wl_of hX hb cL_1066 (rw_iconst (pc' := 1067) rfl ?_)
  refine wl_of hX hb cL_1067 (rw_iadd (pc' := 1068) rfl ?_)
  refine wl_of hX hb cL_1068 (xa_I (so := 0) (pc' := 1069) (a := 0) hW g0 (wsh_s _) (by omega) (wty_s _ _) (by omega) (by omega) rfl (fun b4190 b4191 => ?_))
  refine wl_of hX hb cL_1069 (rw_if_eq (p1 := 1076) (p2 := 1072) (by decide) rfl ⟨by omega, by omega⟩ (fun c4192 => ?_) (fun c4192 => ?_))
  · refine wl_of hX hb cL_1076 (rw_iconst (pc' := 1077) rfl ?_)
    obtain ⟨B, tc, tm, cu, dr, C8, e8, d8, n8, g8, ce8, e0, gtc, htc, em, gtm, htm, ecu, gcu, edr, gdr, hcu, hdr, hdec, hded, hsp, hC1, hC2, hcu8, hrb8, hcg8, hmn8, hE, hZ, hn8, hXA, hV8, hSG, ece8, gce8, hcen8, hhdr8, hknn8, -⟩ := hXI
    have hN3 := RB_n3 hrb8
    have hE13 : ∀ h : Nat, h < 24 → 0 ≤ e8 13 h ∧ e8 13 h ≤ 100 := fun k hk => by
      obtain ⟨s, h1, h2, h3⟩ := hcu8.1.2.2.1
      exact ⟨(h3 k hk).1, (h3 k hk).2.1⟩
    have hXW := hXA.1
    have hXN := hXA.2
    have hE0 : e8 0 3 = d8 0 3 ∧ e8 0 0 = d8 0 0 := by
      have h := hE 0 (by decide)
      exact ⟨congrFun h 3, congrFun h 0⟩
    have u4193 := CU_k hcu8
    have h4194 : CY T H cu (d8 0 3) g8 (H cu 17) := ⟨hcg8, rfl⟩
    have h4195 : RY T H m (d8 0 3) g8 (H m 32) := ⟨hmn8, rfl⟩
    obtain ⟨t9, ht9⟩ : ∃ t : Int, t = H x 9 := ⟨_, rfl⟩
    obtain ⟨y9, hy9⟩ : ∃ y : Int, y = 0 := ⟨_, rfl⟩
    obtain ⟨r4196, q4197, g4198⟩ := hW.ref gx (t' := 6) (n := 13) (j := 2) (p := 0) (q := 0) rfl (by decide) rfl
    refine wl_of hX hb cL_1077 (xc_V (pc' := 1080) (r := x) (as := [vI (H 0 ((i + 1).toNat)), vI 0]) (st := []) (lm_11_139) rfl rfl (Nat.le_of_ble_eq_true rfl) hW gx sh_1 (by decide) rfl (by decide) (u_117 (e := e8) (d := d8) (n := n8) hW gx ⟨by omega, by omega⟩ ⟨by decide, by decide⟩ ecu gcu q4197 g4198 ece8 gce8 (by assumption) (by assumption) (by omega) (by omega) (by omega) (by omega) hcu8 hcen8 hhdr8) (fun R4199 T4200 H4201 p4202 => ?_))
    obtain ⟨e4203, w4205, f4206, z4207, e4204, b4208, p4209⟩ := p4202
    subst e4203
    subst e4204
    show WL _ _ _ _ 1080 [(4, vI i), (3, .ref o), (2, .ref m), (1, .ref x), (0, .ref 0)] [vI z4207] _ H4201
    refine wl_of hX hb cL_1080 (rw_pop (pc' := 1081) rfl rfl ?_)
    refine wl_of hX hb cL_1081 (rw_aload_n (pc' := 1082) (v := .ref m) rfl rfl rfl ?_)
    refine wl_of hX hb cL_1082 (rw_aload_n (pc' := 1083) (v := .ref 0) rfl rfl rfl ?_)
    refine wl_of hX hb cL_1083 (rw_iload (pc' := 1085) (z := i) rfl rfl ?_)
    refine wl_of hX hb cL_1085 (rw_iconst (pc' := 1086) rfl ?_)
    refine wl_of hX hb cL_1086 (rw_iadd (pc' := 1087) rfl ?_)
    have k4213 : H4201 0 ((i + 1).toNat) = H 0 ((i + 1).toNat) := (f4206 0 ((i + 1).toNat) _ g0 (wmem_s rfl))
    refine wl_of hX hb cL_1087 (xa_I (so := 0) (pc' := 1088) (a := 0) w4205 g0 (wsh_s _) (by omega) (wty_s _ _) (by omega) (by omega) rfl (fun b4211 b4212 => ?_))
    refine wl_of hX hb cL_1088 (rw_aload_n (pc' := 1089) (v := .ref 0) rfl rfl rfl ?_)
    refine wl_of hX hb cL_1089 (rw_iload (pc' := 1091) (z := i) rfl rfl ?_)
    refine wl_of hX hb cL_1091 (rw_iconst (pc' := 1092) rfl ?_)
    refine wl_of hX hb cL_1092 (rw_iadd (pc' := 1093) rfl ?_)
    have k4216 : H4201 0 ((i + 2).toNat) = H 0 ((i + 2).toNat) := (f4206 0 ((i + 2).toNat) _ g0 (wmem_s rfl))
    refine wl_of hX hb cL_1093 (xa_I (so := 0) (pc' := 1094) (a := 0) w4205 g0 (wsh_s _) (by omega) (wty_s _ _) (by omega) (by omega) rfl (fun b4214 b4215 => ?_))
    refine wl_of hX hb cL_1094 (rw_if_eq (p1 := 1101) (p2 := 1097) (by decide) rfl ⟨by omega, by omega⟩ (fun c4217 => ?_) (fun c4217 => ?_))
    · refine wl_of hX hb cL_1101 (rw_iconst (pc' := 1102) rfl ?_)
      have k4218 : wKI H4201 m = wKI H m := (wKI_fr hW gm f4206 rfl)
      have k4219 : H4201 x 9 = H x 9 := (f4206 x 9 _ gx rfl)
      have k4220 : H4201 m 6 = H m 6 := (f4206 m 6 _ gm rfl)
      have k4221 : H4201 x 11 = H x 11 := (f4206 x 11 _ gx rfl)
      have k4222 : H4201 m 13 = H m 13 := (f4206 m 13 _ gm rfl)
      have k4223 : H4201 x 8 = H x 8 := (f4206 x 8 _ gx rfl)
      have k4224 : H4201 m 3 = H m 3 := (f4206 m 3 _ gm rfl)
      rw [show H4201 0 ((i + 1).toNat) = H 0 ((i + 1).toNat) by omega]
      have h4225 : RB T H4201 m e8 d8 := (RB_fr hW gm f4206 rfl hrb8)
      have h4226 : KNN T H4201 m e8 d8 := (KNN_fr hW gm f4206 rfl hknn8)
      refine wl_of hX hb cL_1102 (xc_V (pc' := 1105) (r := m) (as := [vI (H 0 ((i + 1).toNat)), vI 0]) (st := []) (lm_11_142) rfl rfl (Nat.le_of_ble_eq_true rfl) w4205 gm sh_42 (by decide) rfl (by decide) (u_263 (e := e8) (d := d8) w4205 gm ⟨by omega, by omega⟩ ⟨by decide, by decide⟩ (by omega) (by assumption) (by assumption) (by assumption) (by assumption) h4225 h4226) (fun R4227 T4228 H4229 p4230 => ?_))
      obtain ⟨e4231, w4233, f4234, z4235, e4232, b4236, p4237⟩ := p4230
      subst e4231
      subst e4232
      obtain ⟨a4238, a4239⟩ := p4237
      show WL _ _ _ _ 1105 [(4, vI i), (3, .ref o), (2, .ref m), (1, .ref x), (0, .ref 0)] [vI z4235] _ H4229
      refine wl_of hX hb cL_1105 (rw_pop (pc' := 1106) rfl rfl ?_)
      refine wl_of hX hb cL_1106 (rw_goto (p1 := 1653) (by decide) ?_)
      have k4240 : H4229 x 9 = H4201 x 9 := (f4234 x 9 _ gx rfl)
      have k4241 : H4229 m 6 = H4201 m 6 := (f4234 m 6 _ gm rfl)
      have k4242 : H4229 x 11 = H4201 x 11 := (f4234 x 11 _ gx rfl)
      have k4243 : H4229 m 13 = H4201 m 13 := (f4234 m 13 _ gm rfl)
      have k4244 : H4229 x 8 = H4201 x 8 := (f4234 x 8 _ gx rfl)
      have k4245 : H4229 m 3 = H4201 m 3 := (f4234 m 3 _ gm rfl)
      have k4246 : H4229 x 0 = H x 0 := ((f4234 x 0 _ gx rfl).trans (f4206 x 0 _ gx rfl))
      have q4247 : H4229 x 0 = (tc : Int) := k4246.trans e0
      have k4248 : H4229 m 5 = H m 5 := ((f4234 m 5 _ gm rfl).trans (f4206 m 5 _ gm rfl))
      have q4249 : H4229 m 5 = (tm : Int) := k4248.trans em
      have k4250 : H4229 x 6 = H x 6 := ((f4234 x 6 _ gx rfl).trans (f4206 x 6 _ gx rfl))
      have q4251 : H4229 x 6 = (cu : Int) := k4250.trans ecu
      have k4252 : H4229 x 7 = H x 7 := ((f4234 x 7 _ gx rfl).trans (f4206 x 7 _ gx rfl))
      have q4253 : H4229 x 7 = (dr : Int) := k4252.trans edr
      have h4254 : CEN T H4229 ce8 e8 d8 := (CEN_fr w4205 gce8 f4234 rfl p4209)
      have h4255 : TP T H4229 tc B := (TP_fr w4205 gtc f4234 rfl (TP_fr hW gtc f4206 rfl htc))
      have h4256 : TM T H4229 tm B := (TM_fr w4205 gtm f4234 rfl (TM_fr hW gtm f4206 rfl htm))
      have h4257 : DD T H4229 cu  := (DD_fr w4205 gcu f4234 rfl (DD_fr hW gcu f4206 rfl hcu))
      have h4258 : DD T H4229 dr  := (DD_fr w4205 gdr f4234 rfl (DD_fr hW gdr f4206 rfl hdr))
      have h4259 : DE T H4229 cu  := (DE_fr w4205 gcu f4234 rfl (DE_fr hW gcu f4206 rfl hdec))
      have h4260 : DE T H4229 dr  := (DE_fr w4205 gdr f4234 rfl (DE_fr hW gdr f4206 rfl hded))
      have h4261 : SP T H4229 x C8 := (SP_fr w4205 gx f4234 rfl (SP_fr hW gx f4206 rfl hsp))
      have h4262 : CU T H4229 cu e8 d8 n8 := (CU_fr w4205 gcu f4234 rfl (CU_fr hW gcu f4206 rfl hcu8))
      have h4263 : CY T H4229 cu (d8 0 3) g8 (H cu 17) := (CY_fr w4205 gcu f4234 rfl (CY_fr hW gcu f4206 rfl h4194))
      have k4264 : H4229 x 3 = H x 3 := ((f4234 x 3 _ gx rfl).trans (f4206 x 3 _ gx rfl))
      have q4265 : H4229 x 3 = (ce8 : Int) := k4264.trans ece8
      have h4266 : HDR T H4229 ce8  := (HDR_fr w4205 gce8 f4234 rfl (HDR_fr hW gce8 f4206 rfl hhdr8))
      have h4267 : RY T H4229 m (d8 0 3) g8 (H m 32) := (RY_fr w4205 gm f4234 rfl (RY_fr hW gm f4206 rfl h4195))
      have h4268 : RB T H4229 m e8 d8 := (RB_fr w4205 gm f4234 rfl h4225)
      exact WL.loc hX (by simp) (next T H4229 ⟨⟨w4233, g0, gx, gm, go, by omega, by omega⟩, ⟨_, tc, tm, cu, dr, _, _, _, _, _, ce8, q4247, gtc, h4255, q4249, gtm, h4256, q4251, gcu, q4253, gdr, h4257, h4258, h4259, h4260, h4261, hC1, hC2, h4262, h4268, (h4263).1, (h4267).1, hE, hZ, (by omega), (by assumption), (by omega), (by first | assumption | exact SG_0), q4265, gce8, h4254, h4266, a4239, gm⟩, by omega, by omega⟩ (by omega) (by omega))
    · exfalso
      omega
  · refine wl_of hX hb cL_1072 (rw_iconst (pc' := 1073) rfl ?_)
    refine wl_of hX hb cL_1073 (rw_goto (p1 := 1077) (by decide) ?_)
    obtain ⟨B, tc, tm, cu, dr, C8, e8, d8, n8, g8, ce8, e0, gtc, htc, em, gtm, htm, ecu, gcu, edr, gdr, hcu, hdr, hdec, hded, hsp, hC1, hC2, hcu8, hrb8, hcg8, hmn8, hE, hZ, hn8, hXA, hV8, hSG, ece8, gce8, hcen8, hhdr8, hknn8, -⟩ := hXI
    have hN3 := RB_n3 hrb8
    have hE13 : ∀ h : Nat, h < 24 → 0 ≤ e8 13 h ∧ e8 13 h ≤ 100 := fun k hk => by
      obtain ⟨s, h1, h2, h3⟩ := hcu8.1.2.2.1
      exact ⟨(h3 k hk).1, (h3 k hk).2.1⟩
    have hXW := hXA.1
    have hXN := hXA.2
    have hE0 : e8 0 3 = d8 0 3 ∧ e8 0 0 = d8 0 0 := by
      have h := hE 0 (by decide)
      exact ⟨congrFun h 3, congrFun h 0⟩
    have u4269 := CU_k hcu8
    have h4270 : CY T H cu (d8 0 3) g8 (H cu 17) := ⟨hcg8, rfl⟩
    have h4271 : RY T H m (d8 0 3) g8 (H m 32) := ⟨hmn8, rfl⟩
    obtain ⟨t9, ht9⟩ : ∃ t : Int, t = H x 9 := ⟨_, rfl⟩
    obtain ⟨y9, hy9⟩ : ∃ y : Int, y = 1 := ⟨_, rfl⟩
    obtain ⟨r4272, q4273, g4274⟩ := hW.ref gx (t' := 6) (n := 13) (j := 2) (p := 0) (q := 0) rfl (by decide) rfl
    refine wl_of hX hb cL_1077 (xc_V (pc' := 1080) (r := x) (as := [vI (H 0 ((i + 1).toNat)), vI 1]) (st := []) (lm_11_139) rfl rfl (Nat.le_of_ble_eq_true rfl) hW gx sh_1 (by decide) rfl (by decide) (u_117 (e := e8) (d := d8) (n := n8) hW gx ⟨by omega, by omega⟩ ⟨by decide, by decide⟩ ecu gcu q4273 g4274 ece8 gce8 (by assumption) (by assumption) (by omega) (by omega) (by omega) (by omega) hcu8 hcen8 hhdr8) (fun R4275 T4276 H4277 p4278 => ?_))
    obtain ⟨e4279, w4281, f4282, z4283, e4280, b4284, p4285⟩ := p4278
    subst e4279
    subst e4280
    show WL _ _ _ _ 1080 [(4, vI i), (3, .ref o), (2, .ref m), (1, .ref x), (0, .ref 0)] [vI z4283] _ H4277
    refine wl_of hX hb cL_1080 (rw_pop (pc' := 1081) rfl rfl ?_)
    refine wl_of hX hb cL_1081 (rw_aload_n (pc' := 1082) (v := .ref m) rfl rfl rfl ?_)
    refine wl_of hX hb cL_1082 (rw_aload_n (pc' := 1083) (v := .ref 0) rfl rfl rfl ?_)
    refine wl_of hX hb cL_1083 (rw_iload (pc' := 1085) (z := i) rfl rfl ?_)
    refine wl_of hX hb cL_1085 (rw_iconst (pc' := 1086) rfl ?_)
    refine wl_of hX hb cL_1086 (rw_iadd (pc' := 1087) rfl ?_)
    have k4289 : H4277 0 ((i + 1).toNat) = H 0 ((i + 1).toNat) := (f4282 0 ((i + 1).toNat) _ g0 (wmem_s rfl))
    refine wl_of hX hb cL_1087 (xa_I (so := 0) (pc' := 1088) (a := 0) w4281 g0 (wsh_s _) (by omega) (wty_s _ _) (by omega) (by omega) rfl (fun b4287 b4288 => ?_))
    refine wl_of hX hb cL_1088 (rw_aload_n (pc' := 1089) (v := .ref 0) rfl rfl rfl ?_)
    refine wl_of hX hb cL_1089 (rw_iload (pc' := 1091) (z := i) rfl rfl ?_)
    refine wl_of hX hb cL_1091 (rw_iconst (pc' := 1092) rfl ?_)
    refine wl_of hX hb cL_1092 (rw_iadd (pc' := 1093) rfl ?_)
    have k4292 : H4277 0 ((i + 2).toNat) = H 0 ((i + 2).toNat) := (f4282 0 ((i + 2).toNat) _ g0 (wmem_s rfl))
    refine wl_of hX hb cL_1093 (xa_I (so := 0) (pc' := 1094) (a := 0) w4281 g0 (wsh_s _) (by omega) (wty_s _ _) (by omega) (by omega) rfl (fun b4290 b4291 => ?_))
    refine wl_of hX hb cL_1094 (rw_if_eq (p1 := 1101) (p2 := 1097) (by decide) rfl ⟨by omega, by omega⟩ (fun c4293 => ?_) (fun c4293 => ?_))
    · refine wl_of hX hb cL_1101 (rw_iconst (pc' := 1102) rfl ?_)
      have k4294 : wKI H4277 m = wKI H m := (wKI_fr hW gm f4282 rfl)
      have k4295 : H4277 x 9 = H x 9 := (f4282 x 9 _ gx rfl)
      have k4296 : H4277 m 6 = H m 6 := (f4282 m 6 _ gm rfl)
      have k4297 : H4277 x 11 = H x 11 := (f4282 x 11 _ gx rfl)
      have k4298 : H4277 m 13 = H m 13 := (f4282 m 13 _ gm rfl)
      have k4299 : H4277 x 8 = H x 8 := (f4282 x 8 _ gx rfl)
      have k4300 : H4277 m 3 = H m 3 := (f4282 m 3 _ gm rfl)
      rw [show H4277 0 ((i + 1).toNat) = H 0 ((i + 1).toNat) by omega]
      have h4301 : RB T H4277 m e8 d8 := (RB_fr hW gm f4282 rfl hrb8)
      have h4302 : KNN T H4277 m e8 d8 := (KNN_fr hW gm f4282 rfl hknn8)
      refine wl_of hX hb cL_1102 (xc_V (pc' := 1105) (r := m) (as := [vI (H 0 ((i + 1).toNat)), vI 0]) (st := []) (lm_11_142) rfl rfl (Nat.le_of_ble_eq_true rfl) w4281 gm sh_42 (by decide) rfl (by decide) (u_263 (e := e8) (d := d8) w4281 gm ⟨by omega, by omega⟩ ⟨by decide, by decide⟩ (by omega) (by assumption) (by assumption) (by assumption) (by assumption) h4301 h4302) (fun R4303 T4304 H4305 p4306 => ?_))
      obtain ⟨e4307, w4309, f4310, z4311, e4308, b4312, p4313⟩ := p4306
      subst e4307
      subst e4308
      obtain ⟨a4314, a4315⟩ := p4313
      show WL _ _ _ _ 1105 [(4, vI i), (3, .ref o), (2, .ref m), (1, .ref x), (0, .ref 0)] [vI z4311] _ H4305
      refine wl_of hX hb cL_1105 (rw_pop (pc' := 1106) rfl rfl ?_)
      refine wl_of hX hb cL_1106 (rw_goto (p1 := 1653) (by decide) ?_)
      have k4316 : H4305 x 9 = H4277 x 9 := (f4310 x 9 _ gx rfl)
      have k4317 : H4305 m 6 = H4277 m 6 := (f4310 m 6 _ gm rfl)
      have k4318 : H4305 x 11 = H4277 x 11 := (f4310 x 11 _ gx rfl)
      have k4319 : H4305 m 13 = H4277 m 13 := (f4310 m 13 _ gm rfl)
      have k4320 : H4305 x 8 = H4277 x 8 := (f4310 x 8 _ gx rfl)
      have k4321 : H4305 m 3 = H4277 m 3 := (f4310 m 3 _ gm rfl)
      have k4322 : H4305 x 0 = H x 0 := ((f4310 x 0 _ gx rfl).trans (f4282 x 0 _ gx rfl))
      have q4323 : H4305 x 0 = (tc : Int) := k4322.trans e0
      have k4324 : H4305 m 5 = H m 5 := ((f4310 m 5 _ gm rfl).trans (f4282 m 5 _ gm rfl))
      have q4325 : H4305 m 5 = (tm : Int) := k4324.trans em
      have k4326 : H4305 x 6 = H x 6 := ((f4310 x 6 _ gx rfl).trans (f4282 x 6 _ gx rfl))
      have q4327 : H4305 x 6 = (cu : Int) := k4326.trans ecu
      have k4328 : H4305 x 7 = H x 7 := ((f4310 x 7 _ gx rfl).trans (f4282 x 7 _ gx rfl))
      have q4329 : H4305 x 7 = (dr : Int) := k4328.trans edr
      have h4330 : CEN T H4305 ce8 e8 d8 := (CEN_fr w4281 gce8 f4310 rfl p4285)
      have h4331 : TP T H4305 tc B := (TP_fr w4281 gtc f4310 rfl (TP_fr hW gtc f4282 rfl htc))
      have h4332 : TM T H4305 tm B := (TM_fr w4281 gtm f4310 rfl (TM_fr hW gtm f4282 rfl htm))
      have h4333 : DD T H4305 cu  := (DD_fr w4281 gcu f4310 rfl (DD_fr hW gcu f4282 rfl hcu))
      have h4334 : DD T H4305 dr  := (DD_fr w4281 gdr f4310 rfl (DD_fr hW gdr f4282 rfl hdr))
      have h4335 : DE T H4305 cu  := (DE_fr w4281 gcu f4310 rfl (DE_fr hW gcu f4282 rfl hdec))
      have h4336 : DE T H4305 dr  := (DE_fr w4281 gdr f4310 rfl (DE_fr hW gdr f4282 rfl hded))
      have h4337 : SP T H4305 x C8 := (SP_fr w4281 gx f4310 rfl (SP_fr hW gx f4282 rfl hsp))
      have h4338 : CU T H4305 cu e8 d8 n8 := (CU_fr w4281 gcu f4310 rfl (CU_fr hW gcu f4282 rfl hcu8))
      have h4339 : CY T H4305 cu (d8 0 3) g8 (H cu 17) := (CY_fr w4281 gcu f4310 rfl (CY_fr hW gcu f4282 rfl h4270))
      have k4340 : H4305 x 3 = H x 3 := ((f4310 x 3 _ gx rfl).trans (f4282 x 3 _ gx rfl))
      have q4341 : H4305 x 3 = (ce8 : Int) := k4340.trans ece8
      have h4342 : HDR T H4305 ce8  := (HDR_fr w4281 gce8 f4310 rfl (HDR_fr hW gce8 f4282 rfl hhdr8))
      have h4343 : RY T H4305 m (d8 0 3) g8 (H m 32) := (RY_fr w4281 gm f4310 rfl (RY_fr hW gm f4282 rfl h4271))
      have h4344 : RB T H4305 m e8 d8 := (RB_fr w4281 gm f4310 rfl h4301)
      exact WL.loc hX (by simp) (next T H4305 ⟨⟨w4309, g0, gx, gm, go, by omega, by omega⟩, ⟨_, tc, tm, cu, dr, _, _, _, _, _, ce8, q4323, gtc, h4331, q4325, gtm, h4332, q4327, gcu, q4329, gdr, h4333, h4334, h4335, h4336, h4337, hC1, hC2, h4338, h4344, (h4339).1, (h4343).1, hE, hZ, (by omega), (by assumption), (by omega), (by first | assumption | exact SG_0), q4341, gce8, h4330, h4342, a4315, gm⟩, by omega, by omega⟩ (by omega) (by omega))
    · refine wl_of hX hb cL_1097 (rw_iconst (pc' := 1098) rfl ?_)
      refine wl_of hX hb cL_1098 (rw_goto (p1 := 1102) (by decide) ?_)
      have k4345 : wKI H4277 m = wKI H m := (wKI_fr hW gm f4282 rfl)
      have k4346 : H4277 x 9 = H x 9 := (f4282 x 9 _ gx rfl)
      have k4347 : H4277 m 6 = H m 6 := (f4282 m 6 _ gm rfl)
      have k4348 : H4277 x 11 = H x 11 := (f4282 x 11 _ gx rfl)
      have k4349 : H4277 m 13 = H m 13 := (f4282 m 13 _ gm rfl)
      have k4350 : H4277 x 8 = H x 8 := (f4282 x 8 _ gx rfl)
      have k4351 : H4277 m 3 = H m 3 := (f4282 m 3 _ gm rfl)
      rw [show H4277 0 ((i + 1).toNat) = H 0 ((i + 1).toNat) by omega]
      have h4352 : RB T H4277 m e8 d8 := (RB_fr hW gm f4282 rfl hrb8)
      have h4353 : KNN T H4277 m e8 d8 := (KNN_fr hW gm f4282 rfl hknn8)
      refine wl_of hX hb cL_1102 (xc_V (pc' := 1105) (r := m) (as := [vI (H 0 ((i + 1).toNat)), vI 1]) (st := []) (lm_11_142) rfl rfl (Nat.le_of_ble_eq_true rfl) w4281 gm sh_42 (by decide) rfl (by decide) (u_263 (e := e8) (d := d8) w4281 gm ⟨by omega, by omega⟩ ⟨by decide, by decide⟩ (by omega) (by assumption) (by assumption) (by assumption) (by assumption) h4352 h4353) (fun R4354 T4355 H4356 p4357 => ?_))
      obtain ⟨e4358, w4360, f4361, z4362, e4359, b4363, p4364⟩ := p4357
      subst e4358
      subst e4359
      obtain ⟨a4365, a4366⟩ := p4364
      show WL _ _ _ _ 1105 [(4, vI i), (3, .ref o), (2, .ref m), (1, .ref x), (0, .ref 0)] [vI z4362] _ H4356
      refine wl_of hX hb cL_1105 (rw_pop (pc' := 1106) rfl rfl ?_)
      refine wl_of hX hb cL_1106 (rw_goto (p1 := 1653) (by decide) ?_)
      have k4367 : H4356 x 9 = H4277 x 9 := (f4361 x 9 _ gx rfl)
      have k4368 : H4356 m 6 = H4277 m 6 := (f4361 m 6 _ gm rfl)
      have k4369 : H4356 x 11 = H4277 x 11 := (f4361 x 11 _ gx rfl)
      have k4370 : H4356 m 13 = H4277 m 13 := (f4361 m 13 _ gm rfl)
      have k4371 : H4356 x 8 = H4277 x 8 := (f4361 x 8 _ gx rfl)
      have k4372 : H4356 m 3 = H4277 m 3 := (f4361 m 3 _ gm rfl)
      have k4373 : H4356 x 0 = H x 0 := ((f4361 x 0 _ gx rfl).trans (f4282 x 0 _ gx rfl))
      have q4374 : H4356 x 0 = (tc : Int) := k4373.trans e0
      have k4375 : H4356 m 5 = H m 5 := ((f4361 m 5 _ gm rfl).trans (f4282 m 5 _ gm rfl))
      have q4376 : H4356 m 5 = (tm : Int) := k4375.trans em
      have k4377 : H4356 x 6 = H x 6 := ((f4361 x 6 _ gx rfl).trans (f4282 x 6 _ gx rfl))
      have q4378 : H4356 x 6 = (cu : Int) := k4377.trans ecu
      have k4379 : H4356 x 7 = H x 7 := ((f4361 x 7 _ gx rfl).trans (f4282 x 7 _ gx rfl))
      have q4380 : H4356 x 7 = (dr : Int) := k4379.trans edr
      have h4381 : CEN T H4356 ce8 e8 d8 := (CEN_fr w4281 gce8 f4361 rfl p4285)
      have h4382 : TP T H4356 tc B := (TP_fr w4281 gtc f4361 rfl (TP_fr hW gtc f4282 rfl htc))
      have h4383 : TM T H4356 tm B := (TM_fr w4281 gtm f4361 rfl (TM_fr hW gtm f4282 rfl htm))
      have h4384 : DD T H4356 cu  := (DD_fr w4281 gcu f4361 rfl (DD_fr hW gcu f4282 rfl hcu))
      have h4385 : DD T H4356 dr  := (DD_fr w4281 gdr f4361 rfl (DD_fr hW gdr f4282 rfl hdr))
      have h4386 : DE T H4356 cu  := (DE_fr w4281 gcu f4361 rfl (DE_fr hW gcu f4282 rfl hdec))
      have h4387 : DE T H4356 dr  := (DE_fr w4281 gdr f4361 rfl (DE_fr hW gdr f4282 rfl hded))
      have h4388 : SP T H4356 x C8 := (SP_fr w4281 gx f4361 rfl (SP_fr hW gx f4282 rfl hsp))
      have h4389 : CU T H4356 cu e8 d8 n8 := (CU_fr w4281 gcu f4361 rfl (CU_fr hW gcu f4282 rfl hcu8))
      have h4390 : CY T H4356 cu (d8 0 3) g8 (H cu 17) := (CY_fr w4281 gcu f4361 rfl (CY_fr hW gcu f4282 rfl h4270))
      have k4391 : H4356 x 3 = H x 3 := ((f4361 x 3 _ gx rfl).trans (f4282 x 3 _ gx rfl))
      have q4392 : H4356 x 3 = (ce8 : Int) := k4391.trans ece8
      have h4393 : HDR T H4356 ce8  := (HDR_fr w4281 gce8 f4361 rfl (HDR_fr hW gce8 f4282 rfl hhdr8))
      have h4394 : RY T H4356 m (d8 0 3) g8 (H m 32) := (RY_fr w4281 gm f4361 rfl (RY_fr hW gm f4282 rfl h4271))
      have h4395 : RB T H4356 m e8 d8 := (RB_fr w4281 gm f4361 rfl h4352)
      exact WL.loc hX (by simp) (next T H4356 ⟨⟨w4360, g0, gx, gm, go, by omega, by omega⟩, ⟨_, tc, tm, cu, dr, _, _, _, _, _, ce8, q4374, gtc, h4382, q4376, gtm, h4383, q4378, gcu, q4380, gdr, h4384, h4385, h4386, h4387, h4388, hC1, hC2, h4389, h4395, (h4390).1, (h4394).1, hE, hZ, (by omega), (by assumption), (by omega), (by first | assumption | exact SG_0), q4392, gce8, h4381, h4393, a4366, gm⟩, by omega, by omega⟩ (by omega) (by omega))
