/-! THE LAW, GONE ON WITH (own work) -/
set_option maxHeartbeats 4000000 in
theorem wl_c22 {kt : Nat → Option mc_E} {CB SB : Nat} {X : mc_S → Prop} {T : wq_T} {H : wq_H} {Len x m o : Nat} {i : Int} (hX : wlX kt CB SB X) (hb : T.2.1 ≤ CB ∧ T.2.2.1 ≤ SB) (hI : wlJ Len x m o T H) (hL : Len ≤ 3072) (hi : 0 ≤ i ∧ i + 6 ≤ Len) (hb2 : T.2.1 + 20 ≤ CB ∧ T.2.2.1 + 500 ≤ SB)  (next : ∀ T' H', wlJ Len x m o T' H' → T'.2.1 ≤ T.2.1 + 20 → T'.2.2.1 ≤ T.2.2.1 + 500 → WL kt CB SB X 1653 (wlL i x m o) [] T' H') : WL kt CB SB X 882 (wlL i x m o) [] T H := by
  obtain ⟨⟨hW, g0, gx, gm, go, hK, hr⟩, hXI, hY1, hY2⟩ := hI
  refine wl_of hX hb cL_882 (rw_aload_n (pc' := 883) (v := .ref x) rfl rfl rfl ?_)
  refine wl_of hX hb cL_883 (rw_aload_n (pc' := 884) (v := .ref 0) rfl rfl rfl ?_)
  refine wl_of hX hb cL_884 (rw_iload (pc' := 886) (z := i) rfl rfl ?_)
  refine wl_of hX hb cL_886 (rw_iconst (pc' := 887) rfl ?_)
  refine wl_of hX hb cL_887 (rw_iadd (pc' := 888) rfl ?_)
  refine wl_of hX hb cL_888 (xa_I (so := 0) (pc' := 889) (a := 0) hW g0 (wsh_s _) (by omega) (wty_s _ _) (by omega) (by omega) rfl (fun b3601 b3602 => ?_))
  refine wl_of hX hb cL_889 (rw_aload_n (pc' := 890) (v := .ref 0) rfl rfl rfl ?_)
  refine wl_of hX hb cL_890 (rw_iload (pc' := 892) (z := i) rfl rfl ?_)
  refine wl_of hX hb cL_892 (rw_iconst (pc' := 893) rfl ?_)
  refine wl_of hX hb cL_893 (rw_iadd (pc' := 894) rfl ?_)
  refine wl_of hX hb cL_894 (xa_I (so := 0) (pc' := 895) (a := 0) hW g0 (wsh_s _) (by omega) (wty_s _ _) (by omega) (by omega) rfl (fun b3603 b3604 => ?_))
  obtain ⟨B, tc, tm, cu, dr, C8, e8, d8, n8, g8, ce8, e0, gtc, htc, em, gtm, htm, ecu, gcu, edr, gdr, hcu, hdr, hdec, hded, hsp, hC1, hC2, hcu8, hrb8, hcg8, hmn8, hE, hZ, hn8, hXA, hV8, hSG, ece8, gce8, hcen8, hhdr8, hknn8, -⟩ := hXI
  have hN3 := RB_n3 hrb8
  have hE13 : ∀ h : Nat, h < 24 → 0 ≤ e8 13 h ∧ e8 13 h ≤ 100 := fun k hk => by
    obtain ⟨s, h1, h2, h3⟩ := hcu8.1.2.2.1
    exact ⟨(h3 k hk).1, (h3 k hk).2.1⟩
  have hXW := hXA.1
  have hXN := hXA.2
  have hE0 : e8 0 3 = d8 0 3 ∧ e8 0 0 = d8 0 0 := by
    have h := hE 0 (by decide)
    exact ⟨congrFun h 3, congrFun h 0⟩
  have u3605 := CU_k hcu8
  have h3606 : CY T H cu (d8 0 3) g8 (H cu 17) := ⟨hcg8, rfl⟩
  have h3607 : RY T H m (d8 0 3) g8 (H m 32) := ⟨hmn8, rfl⟩
  obtain ⟨t9, ht9⟩ : ∃ t : Int, t = H x 9 := ⟨_, rfl⟩
  obtain ⟨y9, hy9⟩ : ∃ y : Int, y = H 0 ((i + 2).toNat) := ⟨_, rfl⟩
  obtain ⟨r3608, q3609, g3610⟩ := hW.ref gx (t' := 6) (n := 13) (j := 2) (p := 0) (q := 0) rfl (by decide) rfl
  refine wl_of hX hb cL_895 (xc_V (pc' := 898) (r := x) (as := [vI (H 0 ((i + 1).toNat)), vI (H 0 ((i + 2).toNat))]) (st := []) (lm_11_114) rfl rfl (Nat.le_of_ble_eq_true rfl) hW gx sh_1 (by decide) rfl (by decide) (u_105 (e := e8) (d := d8) (n := n8) hW gx ⟨by omega, by omega⟩ ⟨by omega, by omega⟩ ecu gcu q3609 g3610 ece8 gce8 (by assumption) (by assumption) (by omega) (by omega) (by omega) (by omega) hcu8 hcen8 hhdr8) (fun R3611 T3612 H3613 p3614 => ?_))
  obtain ⟨e3615, w3617, f3618, z3619, e3616, b3620, p3621⟩ := p3614
  subst e3615
  subst e3616
  show WL _ _ _ _ 898 [(4, vI i), (3, .ref o), (2, .ref m), (1, .ref x), (0, .ref 0)] [vI z3619] _ H3613
  refine wl_of hX hb cL_898 (rw_pop (pc' := 899) rfl rfl ?_)
  refine wl_of hX hb cL_899 (rw_aload_n (pc' := 900) (v := .ref m) rfl rfl rfl ?_)
  refine wl_of hX hb cL_900 (rw_aload_n (pc' := 901) (v := .ref 0) rfl rfl rfl ?_)
  refine wl_of hX hb cL_901 (rw_iload (pc' := 903) (z := i) rfl rfl ?_)
  refine wl_of hX hb cL_903 (rw_iconst (pc' := 904) rfl ?_)
  refine wl_of hX hb cL_904 (rw_iadd (pc' := 905) rfl ?_)
  have k3625 : H3613 0 ((i + 1).toNat) = H 0 ((i + 1).toNat) := (f3618 0 ((i + 1).toNat) _ g0 (wmem_s rfl))
  refine wl_of hX hb cL_905 (xa_I (so := 0) (pc' := 906) (a := 0) w3617 g0 (wsh_s _) (by omega) (wty_s _ _) (by omega) (by omega) rfl (fun b3623 b3624 => ?_))
  refine wl_of hX hb cL_906 (rw_aload_n (pc' := 907) (v := .ref 0) rfl rfl rfl ?_)
  refine wl_of hX hb cL_907 (rw_iload (pc' := 909) (z := i) rfl rfl ?_)
  refine wl_of hX hb cL_909 (rw_iconst (pc' := 910) rfl ?_)
  refine wl_of hX hb cL_910 (rw_iadd (pc' := 911) rfl ?_)
  have k3628 : H3613 0 ((i + 2).toNat) = H 0 ((i + 2).toNat) := (f3618 0 ((i + 2).toNat) _ g0 (wmem_s rfl))
  refine wl_of hX hb cL_911 (xa_I (so := 0) (pc' := 912) (a := 0) w3617 g0 (wsh_s _) (by omega) (wty_s _ _) (by omega) (by omega) rfl (fun b3626 b3627 => ?_))
  have k3629 : wKI H3613 m = wKI H m := (wKI_fr hW gm f3618 rfl)
  have k3630 : H3613 x 9 = H x 9 := (f3618 x 9 _ gx rfl)
  have k3631 : H3613 m 6 = H m 6 := (f3618 m 6 _ gm rfl)
  have k3632 : H3613 x 11 = H x 11 := (f3618 x 11 _ gx rfl)
  have k3633 : H3613 m 13 = H m 13 := (f3618 m 13 _ gm rfl)
  have k3634 : H3613 x 8 = H x 8 := (f3618 x 8 _ gx rfl)
  have k3635 : H3613 m 3 = H m 3 := (f3618 m 3 _ gm rfl)
  rw [show H3613 0 ((i + 2).toNat) = H 0 ((i + 2).toNat) by omega]
  rw [show H3613 0 ((i + 1).toNat) = H 0 ((i + 1).toNat) by omega]
  have h3636 : RB T H3613 m e8 d8 := (RB_fr hW gm f3618 rfl hrb8)
  have h3637 : KNN T H3613 m e8 d8 := (KNN_fr hW gm f3618 rfl hknn8)
  refine wl_of hX hb cL_912 (xc_V (pc' := 915) (r := m) (as := [vI (H 0 ((i + 1).toNat)), vI (H 0 ((i + 2).toNat))]) (st := []) (lm_11_117) rfl rfl (Nat.le_of_ble_eq_true rfl) w3617 gm sh_42 (by decide) rfl (by decide) (u_255 (e := e8) (d := d8) w3617 gm ⟨by omega, by omega⟩ ⟨by omega, by omega⟩ (by omega) (by assumption) (by assumption) (by assumption) (by assumption) h3636 h3637) (fun R3638 T3639 H3640 p3641 => ?_))
  obtain ⟨e3642, w3644, f3645, z3646, e3643, b3647, p3648⟩ := p3641
  subst e3642
  subst e3643
  obtain ⟨a3649, a3650⟩ := p3648
  show WL _ _ _ _ 915 [(4, vI i), (3, .ref o), (2, .ref m), (1, .ref x), (0, .ref 0)] [vI z3646] _ H3640
  refine wl_of hX hb cL_915 (rw_pop (pc' := 916) rfl rfl ?_)
  refine wl_of hX hb cL_916 (rw_goto (p1 := 1653) (by decide) ?_)
  have k3651 : H3640 x 9 = H3613 x 9 := (f3645 x 9 _ gx rfl)
  have k3652 : H3640 m 6 = H3613 m 6 := (f3645 m 6 _ gm rfl)
  have k3653 : H3640 x 11 = H3613 x 11 := (f3645 x 11 _ gx rfl)
  have k3654 : H3640 m 13 = H3613 m 13 := (f3645 m 13 _ gm rfl)
  have k3655 : H3640 x 8 = H3613 x 8 := (f3645 x 8 _ gx rfl)
  have k3656 : H3640 m 3 = H3613 m 3 := (f3645 m 3 _ gm rfl)
  have k3657 : H3640 x 0 = H x 0 := ((f3645 x 0 _ gx rfl).trans (f3618 x 0 _ gx rfl))
  have q3658 : H3640 x 0 = (tc : Int) := k3657.trans e0
  have k3659 : H3640 m 5 = H m 5 := ((f3645 m 5 _ gm rfl).trans (f3618 m 5 _ gm rfl))
  have q3660 : H3640 m 5 = (tm : Int) := k3659.trans em
  have k3661 : H3640 x 6 = H x 6 := ((f3645 x 6 _ gx rfl).trans (f3618 x 6 _ gx rfl))
  have q3662 : H3640 x 6 = (cu : Int) := k3661.trans ecu
  have k3663 : H3640 x 7 = H x 7 := ((f3645 x 7 _ gx rfl).trans (f3618 x 7 _ gx rfl))
  have q3664 : H3640 x 7 = (dr : Int) := k3663.trans edr
  have h3665 : CEN T H3640 ce8 e8 d8 := (CEN_fr w3617 gce8 f3645 rfl p3621)
  have h3666 : TP T H3640 tc B := (TP_fr w3617 gtc f3645 rfl (TP_fr hW gtc f3618 rfl htc))
  have h3667 : TM T H3640 tm B := (TM_fr w3617 gtm f3645 rfl (TM_fr hW gtm f3618 rfl htm))
  have h3668 : DD T H3640 cu  := (DD_fr w3617 gcu f3645 rfl (DD_fr hW gcu f3618 rfl hcu))
  have h3669 : DD T H3640 dr  := (DD_fr w3617 gdr f3645 rfl (DD_fr hW gdr f3618 rfl hdr))
  have h3670 : DE T H3640 cu  := (DE_fr w3617 gcu f3645 rfl (DE_fr hW gcu f3618 rfl hdec))
  have h3671 : DE T H3640 dr  := (DE_fr w3617 gdr f3645 rfl (DE_fr hW gdr f3618 rfl hded))
  have h3672 : SP T H3640 x C8 := (SP_fr w3617 gx f3645 rfl (SP_fr hW gx f3618 rfl hsp))
  have h3673 : CU T H3640 cu e8 d8 n8 := (CU_fr w3617 gcu f3645 rfl (CU_fr hW gcu f3618 rfl hcu8))
  have h3674 : CY T H3640 cu (d8 0 3) g8 (H cu 17) := (CY_fr w3617 gcu f3645 rfl (CY_fr hW gcu f3618 rfl h3606))
  have k3675 : H3640 x 3 = H x 3 := ((f3645 x 3 _ gx rfl).trans (f3618 x 3 _ gx rfl))
  have q3676 : H3640 x 3 = (ce8 : Int) := k3675.trans ece8
  have h3677 : HDR T H3640 ce8  := (HDR_fr w3617 gce8 f3645 rfl (HDR_fr hW gce8 f3618 rfl hhdr8))
  have h3678 : RY T H3640 m (d8 0 3) g8 (H m 32) := (RY_fr w3617 gm f3645 rfl (RY_fr hW gm f3618 rfl h3607))
  have h3679 : RB T H3640 m e8 d8 := (RB_fr w3617 gm f3645 rfl h3636)
  exact WL.loc hX (by simp) (next T H3640 ⟨⟨w3644, g0, gx, gm, go, by omega, by omega⟩, ⟨_, tc, tm, cu, dr, _, _, _, _, _, ce8, q3658, gtc, h3666, q3660, gtm, h3667, q3662, gcu, q3664, gdr, h3668, h3669, h3670, h3671, h3672, hC1, hC2, h3673, h3679, (h3674).1, (h3678).1, hE, hZ, (by omega), (by assumption), (by omega), (by first | assumption | exact SG_0), q3676, gce8, h3665, h3677, a3650, gm⟩, by omega, by omega⟩ (by omega) (by omega))
set_option maxHeartbeats 4000000 in
theorem wl_c23 {kt : Nat → Option mc_E} {CB SB : Nat} {X : mc_S → Prop} {T : wq_T} {H : wq_H} {Len x m o : Nat} {i : Int} (hX : wlX kt CB SB X) (hb : T.2.1 ≤ CB ∧ T.2.2.1 ≤ SB) (hI : wlJ Len x m o T H) (hL : Len ≤ 3072) (hi : 0 ≤ i ∧ i + 6 ≤ Len) (hb2 : T.2.1 + 20 ≤ CB ∧ T.2.2.1 + 500 ≤ SB)  (next : ∀ T' H', wlJ Len x m o T' H' → T'.2.1 ≤ T.2.1 + 20 → T'.2.2.1 ≤ T.2.2.1 + 500 → WL kt CB SB X 1653 (wlL i x m o) [] T' H') : WL kt CB SB X 919 (wlL i x m o) [] T H := by
  obtain ⟨⟨hW, g0, gx, gm, go, hK, hr⟩, hXI, hY1, hY2⟩ := hI
  refine wl_of hX hb cL_919 (rw_aload_n (pc' := 920) (v := .ref x) rfl rfl rfl ?_)
  refine wl_of hX hb cL_920 (rw_aload_n (pc' := 921) (v := .ref 0) rfl rfl rfl ?_)
  refine wl_of hX hb cL_921 (rw_iload (pc' := 923) (z := i) rfl rfl ?_)
  refine wl_of hX hb cL_923 (rw_iconst (pc' := 924) rfl ?_)
  refine wl_of hX hb cL_924 (rw_iadd (pc' := 925) rfl ?_)
  refine wl_of hX hb cL_925 (xa_I (so := 0) (pc' := 926) (a := 0) hW g0 (wsh_s _) (by omega) (wty_s _ _) (by omega) (by omega) rfl (fun b3680 b3681 => ?_))
  obtain ⟨B, tc, tm, cu, dr, C8, e8, d8, n8, g8, ce8, e0, gtc, htc, em, gtm, htm, ecu, gcu, edr, gdr, hcu, hdr, hdec, hded, hsp, hC1, hC2, hcu8, hrb8, hcg8, hmn8, hE, hZ, hn8, hXA, hV8, hSG, ece8, gce8, hcen8, hhdr8, hknn8, -⟩ := hXI
  have hN3 := RB_n3 hrb8
  have hE13 : ∀ h : Nat, h < 24 → 0 ≤ e8 13 h ∧ e8 13 h ≤ 100 := fun k hk => by
    obtain ⟨s, h1, h2, h3⟩ := hcu8.1.2.2.1
    exact ⟨(h3 k hk).1, (h3 k hk).2.1⟩
  have hXW := hXA.1
  have hXN := hXA.2
  have hE0 : e8 0 3 = d8 0 3 ∧ e8 0 0 = d8 0 0 := by
    have h := hE 0 (by decide)
    exact ⟨congrFun h 3, congrFun h 0⟩
  have u3682 := CU_k hcu8
  have h3683 : CY T H cu (d8 0 3) g8 (H cu 17) := ⟨hcg8, rfl⟩
  have h3684 : RY T H m (d8 0 3) g8 (H m 32) := ⟨hmn8, rfl⟩
  obtain ⟨t9, ht9⟩ : ∃ t : Int, t = H x 9 := ⟨_, rfl⟩
  obtain ⟨y9, hy9⟩ : ∃ y : Int, y = H 0 ((i + 1).toNat) := ⟨_, rfl⟩
  obtain ⟨r3685, q3686, g3687⟩ := hW.ref gx (t' := 6) (n := 13) (j := 2) (p := 0) (q := 0) rfl (by decide) rfl
  refine wl_of hX hb cL_926 (xc_V (pc' := 929) (r := x) (as := [vI (H 0 ((i + 1).toNat))]) (st := []) (lm_11_118) rfl rfl (Nat.le_of_ble_eq_true rfl) hW gx sh_1 (by decide) rfl (by decide) (u_107 (e := e8) (d := d8) (n := n8) hW gx ⟨by omega, by omega⟩ ecu gcu q3686 g3687 ece8 gce8 (by assumption) (by assumption) (by omega) (by omega) (by omega) (by omega) hcu8 hcen8 hhdr8) (fun R3688 T3689 H3690 p3691 => ?_))
  obtain ⟨e3692, w3694, f3695, z3696, e3693, b3697, p3698⟩ := p3691
  subst e3692
  subst e3693
  show WL _ _ _ _ 929 [(4, vI i), (3, .ref o), (2, .ref m), (1, .ref x), (0, .ref 0)] [vI z3696] _ H3690
  refine wl_of hX hb cL_929 (rw_pop (pc' := 930) rfl rfl ?_)
  refine wl_of hX hb cL_930 (rw_aload_n (pc' := 931) (v := .ref m) rfl rfl rfl ?_)
  refine wl_of hX hb cL_931 (rw_aload_n (pc' := 932) (v := .ref 0) rfl rfl rfl ?_)
  refine wl_of hX hb cL_932 (rw_iload (pc' := 934) (z := i) rfl rfl ?_)
  refine wl_of hX hb cL_934 (rw_iconst (pc' := 935) rfl ?_)
  refine wl_of hX hb cL_935 (rw_iadd (pc' := 936) rfl ?_)
  have k3702 : H3690 0 ((i + 1).toNat) = H 0 ((i + 1).toNat) := (f3695 0 ((i + 1).toNat) _ g0 (wmem_s rfl))
  refine wl_of hX hb cL_936 (xa_I (so := 0) (pc' := 937) (a := 0) w3694 g0 (wsh_s _) (by omega) (wty_s _ _) (by omega) (by omega) rfl (fun b3700 b3701 => ?_))
  have k3703 : wKI H3690 m = wKI H m := (wKI_fr hW gm f3695 rfl)
  have k3704 : H3690 x 9 = H x 9 := (f3695 x 9 _ gx rfl)
  have k3705 : H3690 m 6 = H m 6 := (f3695 m 6 _ gm rfl)
  have k3706 : H3690 x 11 = H x 11 := (f3695 x 11 _ gx rfl)
  have k3707 : H3690 m 13 = H m 13 := (f3695 m 13 _ gm rfl)
  have k3708 : H3690 x 8 = H x 8 := (f3695 x 8 _ gx rfl)
  have k3709 : H3690 m 3 = H m 3 := (f3695 m 3 _ gm rfl)
  rw [show H3690 0 ((i + 1).toNat) = H 0 ((i + 1).toNat) by omega]
  have h3710 : RB T H3690 m e8 d8 := (RB_fr hW gm f3695 rfl hrb8)
  have h3711 : KNN T H3690 m e8 d8 := (KNN_fr hW gm f3695 rfl hknn8)
  refine wl_of hX hb cL_937 (xc_V (pc' := 940) (r := m) (as := [vI (H 0 ((i + 1).toNat))]) (st := []) (lm_11_121) rfl rfl (Nat.le_of_ble_eq_true rfl) w3694 gm sh_42 (by decide) rfl (by decide) (u_256 (e := e8) (d := d8) w3694 gm ⟨by omega, by omega⟩ (by omega) (by assumption) (by assumption) (by assumption) (by assumption) h3710 h3711) (fun R3712 T3713 H3714 p3715 => ?_))
  obtain ⟨e3716, w3718, f3719, z3720, e3717, b3721, p3722⟩ := p3715
  subst e3716
  subst e3717
  obtain ⟨a3723, a3724⟩ := p3722
  show WL _ _ _ _ 940 [(4, vI i), (3, .ref o), (2, .ref m), (1, .ref x), (0, .ref 0)] [vI z3720] _ H3714
  refine wl_of hX hb cL_940 (rw_pop (pc' := 941) rfl rfl ?_)
  refine wl_of hX hb cL_941 (rw_goto (p1 := 1653) (by decide) ?_)
  have k3725 : H3714 x 9 = H3690 x 9 := (f3719 x 9 _ gx rfl)
  have k3726 : H3714 m 6 = H3690 m 6 := (f3719 m 6 _ gm rfl)
  have k3727 : H3714 x 11 = H3690 x 11 := (f3719 x 11 _ gx rfl)
  have k3728 : H3714 m 13 = H3690 m 13 := (f3719 m 13 _ gm rfl)
  have k3729 : H3714 x 8 = H3690 x 8 := (f3719 x 8 _ gx rfl)
  have k3730 : H3714 m 3 = H3690 m 3 := (f3719 m 3 _ gm rfl)
  have k3731 : H3714 x 0 = H x 0 := ((f3719 x 0 _ gx rfl).trans (f3695 x 0 _ gx rfl))
  have q3732 : H3714 x 0 = (tc : Int) := k3731.trans e0
  have k3733 : H3714 m 5 = H m 5 := ((f3719 m 5 _ gm rfl).trans (f3695 m 5 _ gm rfl))
  have q3734 : H3714 m 5 = (tm : Int) := k3733.trans em
  have k3735 : H3714 x 6 = H x 6 := ((f3719 x 6 _ gx rfl).trans (f3695 x 6 _ gx rfl))
  have q3736 : H3714 x 6 = (cu : Int) := k3735.trans ecu
  have k3737 : H3714 x 7 = H x 7 := ((f3719 x 7 _ gx rfl).trans (f3695 x 7 _ gx rfl))
  have q3738 : H3714 x 7 = (dr : Int) := k3737.trans edr
  have h3739 : CEN T H3714 ce8 e8 d8 := (CEN_fr w3694 gce8 f3719 rfl p3698)
  have h3740 : TP T H3714 tc B := (TP_fr w3694 gtc f3719 rfl (TP_fr hW gtc f3695 rfl htc))
  have h3741 : TM T H3714 tm B := (TM_fr w3694 gtm f3719 rfl (TM_fr hW gtm f3695 rfl htm))
  have h3742 : DD T H3714 cu  := (DD_fr w3694 gcu f3719 rfl (DD_fr hW gcu f3695 rfl hcu))
  have h3743 : DD T H3714 dr  := (DD_fr w3694 gdr f3719 rfl (DD_fr hW gdr f3695 rfl hdr))
  have h3744 : DE T H3714 cu  := (DE_fr w3694 gcu f3719 rfl (DE_fr hW gcu f3695 rfl hdec))
  have h3745 : DE T H3714 dr  := (DE_fr w3694 gdr f3719 rfl (DE_fr hW gdr f3695 rfl hded))
  have h3746 : SP T H3714 x C8 := (SP_fr w3694 gx f3719 rfl (SP_fr hW gx f3695 rfl hsp))
  have h3747 : CU T H3714 cu e8 d8 n8 := (CU_fr w3694 gcu f3719 rfl (CU_fr hW gcu f3695 rfl hcu8))
  have h3748 : CY T H3714 cu (d8 0 3) g8 (H cu 17) := (CY_fr w3694 gcu f3719 rfl (CY_fr hW gcu f3695 rfl h3683))
  have k3749 : H3714 x 3 = H x 3 := ((f3719 x 3 _ gx rfl).trans (f3695 x 3 _ gx rfl))
  have q3750 : H3714 x 3 = (ce8 : Int) := k3749.trans ece8
  have h3751 : HDR T H3714 ce8  := (HDR_fr w3694 gce8 f3719 rfl (HDR_fr hW gce8 f3695 rfl hhdr8))
  have h3752 : RY T H3714 m (d8 0 3) g8 (H m 32) := (RY_fr w3694 gm f3719 rfl (RY_fr hW gm f3695 rfl h3684))
  have h3753 : RB T H3714 m e8 d8 := (RB_fr w3694 gm f3719 rfl h3710)
  exact WL.loc hX (by simp) (next T H3714 ⟨⟨w3718, g0, gx, gm, go, by omega, by omega⟩, ⟨_, tc, tm, cu, dr, _, _, _, _, _, ce8, q3732, gtc, h3740, q3734, gtm, h3741, q3736, gcu, q3738, gdr, h3742, h3743, h3744, h3745, h3746, hC1, hC2, h3747, h3753, (h3748).1, (h3752).1, hE, hZ, (by omega), (by assumption), (by omega), (by first | assumption | exact SG_0), q3750, gce8, h3739, h3751, a3724, gm⟩, by omega, by omega⟩ (by omega) (by omega))
set_option maxHeartbeats 4000000 in
theorem wl_c24 {kt : Nat → Option mc_E} {CB SB : Nat} {X : mc_S → Prop} {T : wq_T} {H : wq_H} {Len x m o : Nat} {i : Int} (hX : wlX kt CB SB X) (hb : T.2.1 ≤ CB ∧ T.2.2.1 ≤ SB) (hI : wlJ Len x m o T H) (hL : Len ≤ 3072) (hi : 0 ≤ i ∧ i + 6 ≤ Len) (hb2 : T.2.1 + 20 ≤ CB ∧ T.2.2.1 + 500 ≤ SB)  (next : ∀ T' H', wlJ Len x m o T' H' → T'.2.1 ≤ T.2.1 + 20 → T'.2.2.1 ≤ T.2.2.1 + 500 → WL kt CB SB X 1653 (wlL i x m o) [] T' H') : WL kt CB SB X 944 (wlL i x m o) [] T H := by
  obtain ⟨⟨hW, g0, gx, gm, go, hK, hr⟩, hXI, hY1, hY2⟩ := hI
  refine wl_of hX hb cL_944 (rw_aload_n (pc' := 945) (v := .ref x) rfl rfl rfl ?_)
  obtain ⟨B, tc, tm, cu, dr, C8, e8, d8, n8, g8, ce8, e0, gtc, htc, em, gtm, htm, ecu, gcu, edr, gdr, hcu, hdr, hdec, hded, hsp, hC1, hC2, hcu8, hrb8, hcg8, hmn8, hE, hZ, hn8, hXA, hV8, hSG, ece8, gce8, hcen8, hhdr8, hknn8, -⟩ := hXI
  have hN3 := RB_n3 hrb8
  have hE13 : ∀ h : Nat, h < 24 → 0 ≤ e8 13 h ∧ e8 13 h ≤ 100 := fun k hk => by
    obtain ⟨s, h1, h2, h3⟩ := hcu8.1.2.2.1
    exact ⟨(h3 k hk).1, (h3 k hk).2.1⟩
  have hXW := hXA.1
  have hXN := hXA.2
  have hE0 : e8 0 3 = d8 0 3 ∧ e8 0 0 = d8 0 0 := by
    have h := hE 0 (by decide)
    exact ⟨congrFun h 3, congrFun h 0⟩
  have u3754 := CU_k hcu8
  have h3755 : CY T H cu (d8 0 3) g8 (H cu 17) := ⟨hcg8, rfl⟩
  have h3756 : RY T H m (d8 0 3) g8 (H m 32) := ⟨hmn8, rfl⟩
  obtain ⟨t9, ht9⟩ : ∃ t : Int, t = H x 9 := ⟨_, rfl⟩
  obtain ⟨r3757, q3758, g3759⟩ := hW.ref gx (t' := 6) (n := 13) (j := 2) (p := 0) (q := 0) rfl (by decide) rfl
  refine wl_of hX hb cL_945 (xc_V (pc' := 948) (r := x) (as := []) (st := []) (lm_11_122) rfl rfl (Nat.le_of_ble_eq_true rfl) hW gx sh_1 (by decide) rfl (by decide) (u_108 (e := e8) (d := d8) (n := n8) hW gx ecu gcu q3758 g3759 ece8 gce8 (by assumption) (by assumption) (by omega) (by omega) (by omega) (by omega) hcu8 hcen8 hhdr8) (fun R3760 T3761 H3762 p3763 => ?_))
  obtain ⟨e3764, w3766, f3767, z3768, e3765, b3769, p3770⟩ := p3763
  subst e3764
  subst e3765
  show WL _ _ _ _ 948 [(4, vI i), (3, .ref o), (2, .ref m), (1, .ref x), (0, .ref 0)] [vL z3768] _ H3762
  refine wl_of hX hb cL_948 (rw_pop2 (pc' := 949) rfl rfl ?_)
  refine wl_of hX hb cL_949 (rw_aload_n (pc' := 950) (v := .ref m) rfl rfl rfl ?_)
  have k3772 : wKI H3762 m = wKI H m := (wKI_fr hW gm f3767 rfl)
  have k3773 : H3762 x 9 = H x 9 := (f3767 x 9 _ gx rfl)
  have k3774 : H3762 m 6 = H m 6 := (f3767 m 6 _ gm rfl)
  have k3775 : H3762 x 11 = H x 11 := (f3767 x 11 _ gx rfl)
  have k3776 : H3762 m 13 = H m 13 := (f3767 m 13 _ gm rfl)
  have k3777 : H3762 x 8 = H x 8 := (f3767 x 8 _ gx rfl)
  have k3778 : H3762 m 3 = H m 3 := (f3767 m 3 _ gm rfl)
  have h3779 : RB T H3762 m e8 d8 := (RB_fr hW gm f3767 rfl hrb8)
  have h3780 : KNN T H3762 m e8 d8 := (KNN_fr hW gm f3767 rfl hknn8)
  refine wl_of hX hb cL_950 (xc_V (pc' := 953) (r := m) (as := []) (st := []) (lm_11_125) rfl rfl (Nat.le_of_ble_eq_true rfl) w3766 gm sh_42 (by decide) rfl (by decide) (u_258 (e := e8) (d := d8) w3766 gm (by omega) (by assumption) (by assumption) (by assumption) (by assumption) h3779 h3780) (fun R3781 T3782 H3783 p3784 => ?_))
  obtain ⟨e3785, w3787, f3788, z3789, e3786, b3790, p3791⟩ := p3784
  subst e3785
  subst e3786
  obtain ⟨a3792, a3793⟩ := p3791
  show WL _ _ _ _ 953 [(4, vI i), (3, .ref o), (2, .ref m), (1, .ref x), (0, .ref 0)] [vL z3789] _ H3783
  refine wl_of hX hb cL_953 (rw_pop2 (pc' := 954) rfl rfl ?_)
  refine wl_of hX hb cL_954 (rw_goto (p1 := 1653) (by decide) ?_)
  have k3794 : H3783 x 9 = H3762 x 9 := (f3788 x 9 _ gx rfl)
  have k3795 : H3783 m 6 = H3762 m 6 := (f3788 m 6 _ gm rfl)
  have k3796 : H3783 x 11 = H3762 x 11 := (f3788 x 11 _ gx rfl)
  have k3797 : H3783 m 13 = H3762 m 13 := (f3788 m 13 _ gm rfl)
  have k3798 : H3783 x 8 = H3762 x 8 := (f3788 x 8 _ gx rfl)
  have k3799 : H3783 m 3 = H3762 m 3 := (f3788 m 3 _ gm rfl)
  have k3800 : H3783 x 0 = H x 0 := ((f3788 x 0 _ gx rfl).trans (f3767 x 0 _ gx rfl))
  have q3801 : H3783 x 0 = (tc : Int) := k3800.trans e0
  have k3802 : H3783 m 5 = H m 5 := ((f3788 m 5 _ gm rfl).trans (f3767 m 5 _ gm rfl))
  have q3803 : H3783 m 5 = (tm : Int) := k3802.trans em
  have k3804 : H3783 x 6 = H x 6 := ((f3788 x 6 _ gx rfl).trans (f3767 x 6 _ gx rfl))
  have q3805 : H3783 x 6 = (cu : Int) := k3804.trans ecu
  have k3806 : H3783 x 7 = H x 7 := ((f3788 x 7 _ gx rfl).trans (f3767 x 7 _ gx rfl))
  have q3807 : H3783 x 7 = (dr : Int) := k3806.trans edr
  have h3808 : CEN T H3783 ce8 e8 d8 := (CEN_fr w3766 gce8 f3788 rfl p3770)
  have h3809 : TP T H3783 tc B := (TP_fr w3766 gtc f3788 rfl (TP_fr hW gtc f3767 rfl htc))
  have h3810 : TM T H3783 tm B := (TM_fr w3766 gtm f3788 rfl (TM_fr hW gtm f3767 rfl htm))
  have h3811 : DD T H3783 cu  := (DD_fr w3766 gcu f3788 rfl (DD_fr hW gcu f3767 rfl hcu))
  have h3812 : DD T H3783 dr  := (DD_fr w3766 gdr f3788 rfl (DD_fr hW gdr f3767 rfl hdr))
  have h3813 : DE T H3783 cu  := (DE_fr w3766 gcu f3788 rfl (DE_fr hW gcu f3767 rfl hdec))
  have h3814 : DE T H3783 dr  := (DE_fr w3766 gdr f3788 rfl (DE_fr hW gdr f3767 rfl hded))
  have h3815 : SP T H3783 x C8 := (SP_fr w3766 gx f3788 rfl (SP_fr hW gx f3767 rfl hsp))
  have h3816 : CU T H3783 cu e8 d8 n8 := (CU_fr w3766 gcu f3788 rfl (CU_fr hW gcu f3767 rfl hcu8))
  have h3817 : CY T H3783 cu (d8 0 3) g8 (H cu 17) := (CY_fr w3766 gcu f3788 rfl (CY_fr hW gcu f3767 rfl h3755))
  have k3818 : H3783 x 3 = H x 3 := ((f3788 x 3 _ gx rfl).trans (f3767 x 3 _ gx rfl))
  have q3819 : H3783 x 3 = (ce8 : Int) := k3818.trans ece8
  have h3820 : HDR T H3783 ce8  := (HDR_fr w3766 gce8 f3788 rfl (HDR_fr hW gce8 f3767 rfl hhdr8))
  have h3821 : RY T H3783 m (d8 0 3) g8 (H m 32) := (RY_fr w3766 gm f3788 rfl (RY_fr hW gm f3767 rfl h3756))
  have h3822 : RB T H3783 m e8 d8 := (RB_fr w3766 gm f3788 rfl h3779)
  exact WL.loc hX (by simp) (next T H3783 ⟨⟨w3787, g0, gx, gm, go, by omega, by omega⟩, ⟨_, tc, tm, cu, dr, _, _, _, _, _, ce8, q3801, gtc, h3809, q3803, gtm, h3810, q3805, gcu, q3807, gdr, h3811, h3812, h3813, h3814, h3815, hC1, hC2, h3816, h3822, (h3817).1, (h3821).1, hE, hZ, (by omega), (by assumption), (by omega), (by first | assumption | exact SG_0), q3819, gce8, h3808, h3820, a3793, gm⟩, by omega, by omega⟩ (by omega) (by omega))
set_option maxHeartbeats 4000000 in
theorem wl_c25 {kt : Nat → Option mc_E} {CB SB : Nat} {X : mc_S → Prop} {T : wq_T} {H : wq_H} {Len x m o : Nat} {i : Int} (hX : wlX kt CB SB X) (hb : T.2.1 ≤ CB ∧ T.2.2.1 ≤ SB) (hI : wlJ Len x m o T H) (hL : Len ≤ 3072) (hi : 0 ≤ i ∧ i + 6 ≤ Len) (hb2 : T.2.1 + 20 ≤ CB ∧ T.2.2.1 + 500 ≤ SB)  (next : ∀ T' H', wlJ Len x m o T' H' → T'.2.1 ≤ T.2.1 + 20 → T'.2.2.1 ≤ T.2.2.1 + 500 → WL kt CB SB X 1653 (wlL i x m o) [] T' H') : WL kt CB SB X 957 (wlL i x m o) [] T H := by
  obtain ⟨⟨hW, g0, gx, gm, go, hK, hr⟩, hXI, hY1, hY2⟩ := hI
  refine wl_of hX hb cL_957 (rw_aload_n (pc' := 958) (v := .ref x) rfl rfl rfl ?_)
  refine wl_of hX hb cL_958 (rw_aload_n (pc' := 959) (v := .ref 0) rfl rfl rfl ?_)
  refine wl_of hX hb cL_959 (rw_iload (pc' := 961) (z := i) rfl rfl ?_)
  refine wl_of hX hb cL_961 (rw_iconst (pc' := 962) rfl ?_)
  refine wl_of hX hb cL_962 (rw_iadd (pc' := 963) rfl ?_)
  refine wl_of hX hb cL_963 (xa_I (so := 0) (pc' := 964) (a := 0) hW g0 (wsh_s _) (by omega) (wty_s _ _) (by omega) (by omega) rfl (fun b3823 b3824 => ?_))
  refine wl_of hX hb cL_964 (rw_aload_n (pc' := 965) (v := .ref 0) rfl rfl rfl ?_)
  refine wl_of hX hb cL_965 (rw_iload (pc' := 967) (z := i) rfl rfl ?_)
  refine wl_of hX hb cL_967 (rw_iconst (pc' := 968) rfl ?_)
  refine wl_of hX hb cL_968 (rw_iadd (pc' := 969) rfl ?_)
  refine wl_of hX hb cL_969 (xa_I (so := 0) (pc' := 970) (a := 0) hW g0 (wsh_s _) (by omega) (wty_s _ _) (by omega) (by omega) rfl (fun b3825 b3826 => ?_))
  obtain ⟨B, tc, tm, cu, dr, C8, e8, d8, n8, g8, ce8, e0, gtc, htc, em, gtm, htm, ecu, gcu, edr, gdr, hcu, hdr, hdec, hded, hsp, hC1, hC2, hcu8, hrb8, hcg8, hmn8, hE, hZ, hn8, hXA, hV8, hSG, ece8, gce8, hcen8, hhdr8, hknn8, -⟩ := hXI
  have hN3 := RB_n3 hrb8
  have hE13 : ∀ h : Nat, h < 24 → 0 ≤ e8 13 h ∧ e8 13 h ≤ 100 := fun k hk => by
    obtain ⟨s, h1, h2, h3⟩ := hcu8.1.2.2.1
    exact ⟨(h3 k hk).1, (h3 k hk).2.1⟩
  have hXW := hXA.1
  have hXN := hXA.2
  have hE0 : e8 0 3 = d8 0 3 ∧ e8 0 0 = d8 0 0 := by
    have h := hE 0 (by decide)
    exact ⟨congrFun h 3, congrFun h 0⟩
  have u3827 := CU_k hcu8
  have h3828 : CY T H cu (d8 0 3) g8 (H cu 17) := ⟨hcg8, rfl⟩
  have h3829 : RY T H m (d8 0 3) g8 (H m 32) := ⟨hmn8, rfl⟩
  obtain ⟨t9, ht9⟩ : ∃ t : Int, t = H x 9 := ⟨_, rfl⟩
  obtain ⟨y9, hy9⟩ : ∃ y : Int, y = H 0 ((i + 2).toNat) := ⟨_, rfl⟩
  obtain ⟨r3830, q3831, g3832⟩ := hW.ref gx (t' := 6) (n := 13) (j := 2) (p := 0) (q := 0) rfl (by decide) rfl
  refine wl_of hX hb cL_970 (xc_V (pc' := 973) (r := x) (as := [vI (H 0 ((i + 1).toNat)), vI (H 0 ((i + 2).toNat))]) (st := []) (lm_11_126) rfl rfl (Nat.le_of_ble_eq_true rfl) hW gx sh_1 (by decide) rfl (by decide) (u_109 (e := e8) (d := d8) (n := n8) hW gx ⟨by omega, by omega⟩ ⟨by omega, by omega⟩ ecu gcu q3831 g3832 ece8 gce8 (by assumption) (by assumption) (by omega) (by omega) (by omega) (by omega) hcu8 hcen8 hhdr8) (fun R3833 T3834 H3835 p3836 => ?_))
  obtain ⟨e3837, w3839, f3840, z3841, e3838, b3842, p3843⟩ := p3836
  subst e3837
  subst e3838
  rcases p3843 with ⟨a3844, a3845, a3846⟩ | ⟨a3847, a3848, a3849⟩
  · show WL _ _ _ _ 973 [(4, vI i), (3, .ref o), (2, .ref m), (1, .ref x), (0, .ref 0)] [vI z3841] _ H3835
    refine wl_of hX hb cL_973 (rw_aload_n (pc' := 974) (v := .ref m) rfl rfl rfl ?_)
    refine wl_of hX hb cL_974 (rw_aload_n (pc' := 975) (v := .ref 0) rfl rfl rfl ?_)
    refine wl_of hX hb cL_975 (rw_iload (pc' := 977) (z := i) rfl rfl ?_)
    refine wl_of hX hb cL_977 (rw_iconst (pc' := 978) rfl ?_)
    refine wl_of hX hb cL_978 (rw_iadd (pc' := 979) rfl ?_)
    have k3852 : H3835 0 ((i + 1).toNat) = H 0 ((i + 1).toNat) := (f3840 0 ((i + 1).toNat) _ g0 (wmem_s rfl))
    refine wl_of hX hb cL_979 (xa_I (so := 0) (pc' := 980) (a := 0) w3839 g0 (wsh_s _) (by omega) (wty_s _ _) (by omega) (by omega) rfl (fun b3850 b3851 => ?_))
    refine wl_of hX hb cL_980 (rw_aload_n (pc' := 981) (v := .ref 0) rfl rfl rfl ?_)
    refine wl_of hX hb cL_981 (rw_iload (pc' := 983) (z := i) rfl rfl ?_)
    refine wl_of hX hb cL_983 (rw_iconst (pc' := 984) rfl ?_)
    refine wl_of hX hb cL_984 (rw_iadd (pc' := 985) rfl ?_)
    have k3855 : H3835 0 ((i + 2).toNat) = H 0 ((i + 2).toNat) := (f3840 0 ((i + 2).toNat) _ g0 (wmem_s rfl))
    refine wl_of hX hb cL_985 (xa_I (so := 0) (pc' := 986) (a := 0) w3839 g0 (wsh_s _) (by omega) (wty_s _ _) (by omega) (by omega) rfl (fun b3853 b3854 => ?_))
    have k3856 : wKI H3835 m = wKI H m := (wKI_fr hW gm f3840 rfl)
    have k3857 : H3835 x 9 = H x 9 := (f3840 x 9 _ gx rfl)
    have k3858 : H3835 m 6 = H m 6 := (f3840 m 6 _ gm rfl)
    have k3859 : H3835 x 11 = H x 11 := (f3840 x 11 _ gx rfl)
    have k3860 : H3835 m 13 = H m 13 := (f3840 m 13 _ gm rfl)
    have k3861 : H3835 x 8 = H x 8 := (f3840 x 8 _ gx rfl)
    have k3862 : H3835 m 3 = H m 3 := (f3840 m 3 _ gm rfl)
    rw [show H3835 0 ((i + 2).toNat) = H 0 ((i + 2).toNat) by omega]
    rw [show H3835 0 ((i + 1).toNat) = H 0 ((i + 1).toNat) by omega]
    have h3863 : RB T H3835 m e8 d8 := (RB_fr hW gm f3840 rfl hrb8)
    have h3864 : KNN T H3835 m e8 d8 := (KNN_fr hW gm f3840 rfl hknn8)
    refine wl_of hX hb cL_986 (xc_V (pc' := 989) (r := m) (as := [vI (H 0 ((i + 1).toNat)), vI (H 0 ((i + 2).toNat))]) (st := [vI z3841]) (lm_11_129) rfl rfl (Nat.le_of_ble_eq_true rfl) w3839 gm sh_42 (by decide) rfl (by decide) (u_259 (e := e8) (d := d8) w3839 gm ⟨by omega, by omega⟩ ⟨by omega, by omega⟩ (by omega) (by assumption) (by assumption) (by assumption) (by assumption) h3863 h3864) (fun R3865 T3866 H3867 p3868 => ?_))
    obtain ⟨e3869, w3871, f3872, z3873, e3870, b3874, p3875⟩ := p3868
    subst e3869
    subst e3870
    rcases p3875 with ⟨a3876, a3877, a3878, a3879⟩ | ⟨a3880, a3881, a3882, a3883⟩
    · show WL _ _ _ _ 989 [(4, vI i), (3, .ref o), (2, .ref m), (1, .ref x), (0, .ref 0)] [vI z3873, vI z3841] _ H3867
      refine wl_of hX hb cL_989 (rw_icmp_eq (p1 := 1653) (p2 := 992) (by decide) rfl ⟨b3842.1, b3842.2⟩ ⟨b3874.1, b3874.2⟩ (fun c3884 => ?_) (fun c3884 => ?_))
      · have k3885 : H3867 x 9 = H3835 x 9 := (f3872 x 9 _ gx rfl)
        have k3886 : H3867 m 6 = H3835 m 6 := (f3872 m 6 _ gm rfl)
        have k3887 : H3867 x 11 = H3835 x 11 := (f3872 x 11 _ gx rfl)
        have k3888 : H3867 m 13 = H3835 m 13 := (f3872 m 13 _ gm rfl)
        have k3889 : H3867 x 8 = H3835 x 8 := (f3872 x 8 _ gx rfl)
        have k3890 : H3867 m 3 = H3835 m 3 := (f3872 m 3 _ gm rfl)
        have k3891 : H3867 x 0 = H x 0 := ((f3872 x 0 _ gx rfl).trans (f3840 x 0 _ gx rfl))
        have q3892 : H3867 x 0 = (tc : Int) := k3891.trans e0
        have k3893 : H3867 m 5 = H m 5 := ((f3872 m 5 _ gm rfl).trans (f3840 m 5 _ gm rfl))
        have q3894 : H3867 m 5 = (tm : Int) := k3893.trans em
        have k3895 : H3867 x 6 = H x 6 := ((f3872 x 6 _ gx rfl).trans (f3840 x 6 _ gx rfl))
        have q3896 : H3867 x 6 = (cu : Int) := k3895.trans ecu
        have k3897 : H3867 x 7 = H x 7 := ((f3872 x 7 _ gx rfl).trans (f3840 x 7 _ gx rfl))
        have q3898 : H3867 x 7 = (dr : Int) := k3897.trans edr
        have h3899 : CEN T H3867 ce8 e8 d8 := (CEN_fr w3839 gce8 f3872 rfl a3846)
        have h3900 : TP T H3867 tc B := (TP_fr w3839 gtc f3872 rfl (TP_fr hW gtc f3840 rfl htc))
        have h3901 : TM T H3867 tm B := (TM_fr w3839 gtm f3872 rfl (TM_fr hW gtm f3840 rfl htm))
        have h3902 : DD T H3867 cu  := (DD_fr w3839 gcu f3872 rfl (DD_fr hW gcu f3840 rfl hcu))
        have h3903 : DD T H3867 dr  := (DD_fr w3839 gdr f3872 rfl (DD_fr hW gdr f3840 rfl hdr))
        have h3904 : DE T H3867 cu  := (DE_fr w3839 gcu f3872 rfl (DE_fr hW gcu f3840 rfl hdec))
        have h3905 : DE T H3867 dr  := (DE_fr w3839 gdr f3872 rfl (DE_fr hW gdr f3840 rfl hded))
        have h3906 : SP T H3867 x C8 := (SP_fr w3839 gx f3872 rfl (SP_fr hW gx f3840 rfl hsp))
        have h3907 : CU T H3867 cu e8 d8 n8 := (CU_fr w3839 gcu f3872 rfl (CU_fr hW gcu f3840 rfl hcu8))
        have h3908 : CY T H3867 cu (d8 0 3) g8 (H cu 17) := (CY_fr w3839 gcu f3872 rfl (CY_fr hW gcu f3840 rfl h3828))
        have k3909 : H3867 x 3 = H x 3 := ((f3872 x 3 _ gx rfl).trans (f3840 x 3 _ gx rfl))
        have q3910 : H3867 x 3 = (ce8 : Int) := k3909.trans ece8
        have h3911 : HDR T H3867 ce8  := (HDR_fr w3839 gce8 f3872 rfl (HDR_fr hW gce8 f3840 rfl hhdr8))
        have h3912 : RY T H3867 m (d8 0 3) g8 (H m 32) := (RY_fr w3839 gm f3872 rfl (RY_fr hW gm f3840 rfl h3829))
        have h3913 : RB T H3867 m e8 d8 := (RB_fr w3839 gm f3872 rfl h3863)
        exact WL.loc hX (by simp) (next T H3867 ⟨⟨w3871, g0, gx, gm, go, by omega, by omega⟩, ⟨_, tc, tm, cu, dr, _, _, _, _, _, ce8, q3892, gtc, h3900, q3894, gtm, h3901, q3896, gcu, q3898, gdr, h3902, h3903, h3904, h3905, h3906, hC1, hC2, h3907, h3913, (h3908).1, (h3912).1, hE, hZ, (by omega), (by assumption), (by omega), (by first | assumption | exact SG_0), q3910, gce8, h3899, h3911, a3879, gm⟩, by omega, by omega⟩ (by omega) (by omega))
      · exfalso
        omega
    · show WL _ _ _ _ 989 [(4, vI i), (3, .ref o), (2, .ref m), (1, .ref x), (0, .ref 0)] [vI z3873, vI z3841] _ H3867
      refine wl_of hX hb cL_989 (rw_icmp_eq (p1 := 1653) (p2 := 992) (by decide) rfl ⟨b3842.1, b3842.2⟩ ⟨b3874.1, b3874.2⟩ (fun c3914 => ?_) (fun c3914 => ?_))
      · have k3915 : H3867 x 9 = H3835 x 9 := (f3872 x 9 _ gx rfl)
        have k3916 : H3867 m 6 = H3835 m 6 := (f3872 m 6 _ gm rfl)
        have k3917 : H3867 x 11 = H3835 x 11 := (f3872 x 11 _ gx rfl)
        have k3918 : H3867 m 13 = H3835 m 13 := (f3872 m 13 _ gm rfl)
        have k3919 : H3867 x 8 = H3835 x 8 := (f3872 x 8 _ gx rfl)
        have k3920 : H3867 m 3 = H3835 m 3 := (f3872 m 3 _ gm rfl)
        have k3921 : H3867 x 0 = H x 0 := ((f3872 x 0 _ gx rfl).trans (f3840 x 0 _ gx rfl))
        have q3922 : H3867 x 0 = (tc : Int) := k3921.trans e0
        have k3923 : H3867 m 5 = H m 5 := ((f3872 m 5 _ gm rfl).trans (f3840 m 5 _ gm rfl))
        have q3924 : H3867 m 5 = (tm : Int) := k3923.trans em
        have k3925 : H3867 x 6 = H x 6 := ((f3872 x 6 _ gx rfl).trans (f3840 x 6 _ gx rfl))
        have q3926 : H3867 x 6 = (cu : Int) := k3925.trans ecu
        have k3927 : H3867 x 7 = H x 7 := ((f3872 x 7 _ gx rfl).trans (f3840 x 7 _ gx rfl))
        have q3928 : H3867 x 7 = (dr : Int) := k3927.trans edr
        have h3929 : CEN T H3867 ce8 e8 d8 := (CEN_fr w3839 gce8 f3872 rfl a3846)
        have h3930 : TP T H3867 tc B := (TP_fr w3839 gtc f3872 rfl (TP_fr hW gtc f3840 rfl htc))
        have h3931 : TM T H3867 tm B := (TM_fr w3839 gtm f3872 rfl (TM_fr hW gtm f3840 rfl htm))
        have h3932 : DD T H3867 cu  := (DD_fr w3839 gcu f3872 rfl (DD_fr hW gcu f3840 rfl hcu))
        have h3933 : DD T H3867 dr  := (DD_fr w3839 gdr f3872 rfl (DD_fr hW gdr f3840 rfl hdr))
        have h3934 : DE T H3867 cu  := (DE_fr w3839 gcu f3872 rfl (DE_fr hW gcu f3840 rfl hdec))
        have h3935 : DE T H3867 dr  := (DE_fr w3839 gdr f3872 rfl (DE_fr hW gdr f3840 rfl hded))
        have h3936 : SP T H3867 x C8 := (SP_fr w3839 gx f3872 rfl (SP_fr hW gx f3840 rfl hsp))
        have h3937 : CU T H3867 cu e8 d8 n8 := (CU_fr w3839 gcu f3872 rfl (CU_fr hW gcu f3840 rfl hcu8))
        have h3938 : CY T H3867 cu (d8 0 3) g8 (H cu 17) := (CY_fr w3839 gcu f3872 rfl (CY_fr hW gcu f3840 rfl h3828))
        have k3939 : H3867 x 3 = H x 3 := ((f3872 x 3 _ gx rfl).trans (f3840 x 3 _ gx rfl))
        have q3940 : H3867 x 3 = (ce8 : Int) := k3939.trans ece8
        have h3941 : HDR T H3867 ce8  := (HDR_fr w3839 gce8 f3872 rfl (HDR_fr hW gce8 f3840 rfl hhdr8))
        have h3942 : RY T H3867 m (d8 0 3) g8 (H m 32) := (RY_fr w3839 gm f3872 rfl (RY_fr hW gm f3840 rfl h3829))
        have h3943 : RB T H3867 m e8 d8 := (RB_fr w3839 gm f3872 rfl h3863)
        exact WL.loc hX (by simp) (next T H3867 ⟨⟨w3871, g0, gx, gm, go, by omega, by omega⟩, ⟨_, tc, tm, cu, dr, _, _, _, _, _, ce8, q3922, gtc, h3930, q3924, gtm, h3931, q3926, gcu, q3928, gdr, h3932, h3933, h3934, h3935, h3936, hC1, hC2, h3937, h3943, (h3938).1, (h3942).1, hE, hZ, (by omega), (by assumption), (by omega), (by first | assumption | exact SG_0), q3940, gce8, h3929, h3941, a3883, gm⟩, by omega, by omega⟩ (by omega) (by omega))
      · refine wl_of hX hb cL_992 (rw_iconst (pc' := 993) rfl ?_)
        exfalso
        omega
  · show WL _ _ _ _ 973 [(4, vI i), (3, .ref o), (2, .ref m), (1, .ref x), (0, .ref 0)] [vI z3841] _ H3835
    refine wl_of hX hb cL_973 (rw_aload_n (pc' := 974) (v := .ref m) rfl rfl rfl ?_)
    refine wl_of hX hb cL_974 (rw_aload_n (pc' := 975) (v := .ref 0) rfl rfl rfl ?_)
    refine wl_of hX hb cL_975 (rw_iload (pc' := 977) (z := i) rfl rfl ?_)
    refine wl_of hX hb cL_977 (rw_iconst (pc' := 978) rfl ?_)
    refine wl_of hX hb cL_978 (rw_iadd (pc' := 979) rfl ?_)
    have k3946 : H3835 0 ((i + 1).toNat) = H 0 ((i + 1).toNat) := (f3840 0 ((i + 1).toNat) _ g0 (wmem_s rfl))
    refine wl_of hX hb cL_979 (xa_I (so := 0) (pc' := 980) (a := 0) w3839 g0 (wsh_s _) (by omega) (wty_s _ _) (by omega) (by omega) rfl (fun b3944 b3945 => ?_))
    refine wl_of hX hb cL_980 (rw_aload_n (pc' := 981) (v := .ref 0) rfl rfl rfl ?_)
    refine wl_of hX hb cL_981 (rw_iload (pc' := 983) (z := i) rfl rfl ?_)
    refine wl_of hX hb cL_983 (rw_iconst (pc' := 984) rfl ?_)
    refine wl_of hX hb cL_984 (rw_iadd (pc' := 985) rfl ?_)
    have k3949 : H3835 0 ((i + 2).toNat) = H 0 ((i + 2).toNat) := (f3840 0 ((i + 2).toNat) _ g0 (wmem_s rfl))
    refine wl_of hX hb cL_985 (xa_I (so := 0) (pc' := 986) (a := 0) w3839 g0 (wsh_s _) (by omega) (wty_s _ _) (by omega) (by omega) rfl (fun b3947 b3948 => ?_))
    have k3950 : wKI H3835 m = wKI H m := (wKI_fr hW gm f3840 rfl)
    have k3951 : H3835 x 9 = H x 9 := (f3840 x 9 _ gx rfl)
    have k3952 : H3835 m 6 = H m 6 := (f3840 m 6 _ gm rfl)
    have k3953 : H3835 x 11 = H x 11 := (f3840 x 11 _ gx rfl)
    have k3954 : H3835 m 13 = H m 13 := (f3840 m 13 _ gm rfl)
    have k3955 : H3835 x 8 = H x 8 := (f3840 x 8 _ gx rfl)
    have k3956 : H3835 m 3 = H m 3 := (f3840 m 3 _ gm rfl)
    rw [show H3835 0 ((i + 2).toNat) = H 0 ((i + 2).toNat) by omega]
    rw [show H3835 0 ((i + 1).toNat) = H 0 ((i + 1).toNat) by omega]
    have h3957 : RB T H3835 m e8 d8 := (RB_fr hW gm f3840 rfl hrb8)
    have h3958 : KNN T H3835 m e8 d8 := (KNN_fr hW gm f3840 rfl hknn8)
    refine wl_of hX hb cL_986 (xc_V (pc' := 989) (r := m) (as := [vI (H 0 ((i + 1).toNat)), vI (H 0 ((i + 2).toNat))]) (st := [vI z3841]) (lm_11_129) rfl rfl (Nat.le_of_ble_eq_true rfl) w3839 gm sh_42 (by decide) rfl (by decide) (u_259 (e := e8) (d := d8) w3839 gm ⟨by omega, by omega⟩ ⟨by omega, by omega⟩ (by omega) (by assumption) (by assumption) (by assumption) (by assumption) h3957 h3958) (fun R3959 T3960 H3961 p3962 => ?_))
    obtain ⟨e3963, w3965, f3966, z3967, e3964, b3968, p3969⟩ := p3962
    subst e3963
    subst e3964
    rcases p3969 with ⟨a3970, a3971, a3972, a3973⟩ | ⟨a3974, a3975, a3976, a3977⟩
    · show WL _ _ _ _ 989 [(4, vI i), (3, .ref o), (2, .ref m), (1, .ref x), (0, .ref 0)] [vI z3967, vI z3841] _ H3961
      refine wl_of hX hb cL_989 (rw_icmp_eq (p1 := 1653) (p2 := 992) (by decide) rfl ⟨b3842.1, b3842.2⟩ ⟨b3968.1, b3968.2⟩ (fun c3978 => ?_) (fun c3978 => ?_))
      · have k3979 : H3961 x 9 = H3835 x 9 := (f3966 x 9 _ gx rfl)
        have k3980 : H3961 m 6 = H3835 m 6 := (f3966 m 6 _ gm rfl)
        have k3981 : H3961 x 11 = H3835 x 11 := (f3966 x 11 _ gx rfl)
        have k3982 : H3961 m 13 = H3835 m 13 := (f3966 m 13 _ gm rfl)
        have k3983 : H3961 x 8 = H3835 x 8 := (f3966 x 8 _ gx rfl)
        have k3984 : H3961 m 3 = H3835 m 3 := (f3966 m 3 _ gm rfl)
        have k3985 : H3961 x 0 = H x 0 := ((f3966 x 0 _ gx rfl).trans (f3840 x 0 _ gx rfl))
        have q3986 : H3961 x 0 = (tc : Int) := k3985.trans e0
        have k3987 : H3961 m 5 = H m 5 := ((f3966 m 5 _ gm rfl).trans (f3840 m 5 _ gm rfl))
        have q3988 : H3961 m 5 = (tm : Int) := k3987.trans em
        have k3989 : H3961 x 6 = H x 6 := ((f3966 x 6 _ gx rfl).trans (f3840 x 6 _ gx rfl))
        have q3990 : H3961 x 6 = (cu : Int) := k3989.trans ecu
        have k3991 : H3961 x 7 = H x 7 := ((f3966 x 7 _ gx rfl).trans (f3840 x 7 _ gx rfl))
        have q3992 : H3961 x 7 = (dr : Int) := k3991.trans edr
        have h3993 : CEN T H3961 ce8 e8 d8 := (CEN_fr w3839 gce8 f3966 rfl a3849)
        have h3994 : TP T H3961 tc B := (TP_fr w3839 gtc f3966 rfl (TP_fr hW gtc f3840 rfl htc))
        have h3995 : TM T H3961 tm B := (TM_fr w3839 gtm f3966 rfl (TM_fr hW gtm f3840 rfl htm))
        have h3996 : DD T H3961 cu  := (DD_fr w3839 gcu f3966 rfl (DD_fr hW gcu f3840 rfl hcu))
        have h3997 : DD T H3961 dr  := (DD_fr w3839 gdr f3966 rfl (DD_fr hW gdr f3840 rfl hdr))
        have h3998 : DE T H3961 cu  := (DE_fr w3839 gcu f3966 rfl (DE_fr hW gcu f3840 rfl hdec))
        have h3999 : DE T H3961 dr  := (DE_fr w3839 gdr f3966 rfl (DE_fr hW gdr f3840 rfl hded))
        have h4000 : SP T H3961 x C8 := (SP_fr w3839 gx f3966 rfl (SP_fr hW gx f3840 rfl hsp))
        have h4001 : CU T H3961 cu e8 d8 n8 := (CU_fr w3839 gcu f3966 rfl (CU_fr hW gcu f3840 rfl hcu8))
        have h4002 : CY T H3961 cu (d8 0 3) g8 (H cu 17) := (CY_fr w3839 gcu f3966 rfl (CY_fr hW gcu f3840 rfl h3828))
        have k4003 : H3961 x 3 = H x 3 := ((f3966 x 3 _ gx rfl).trans (f3840 x 3 _ gx rfl))
        have q4004 : H3961 x 3 = (ce8 : Int) := k4003.trans ece8
        have h4005 : HDR T H3961 ce8  := (HDR_fr w3839 gce8 f3966 rfl (HDR_fr hW gce8 f3840 rfl hhdr8))
        have h4006 : RY T H3961 m (d8 0 3) g8 (H m 32) := (RY_fr w3839 gm f3966 rfl (RY_fr hW gm f3840 rfl h3829))
        have h4007 : RB T H3961 m e8 d8 := (RB_fr w3839 gm f3966 rfl h3957)
        exact WL.loc hX (by simp) (next T H3961 ⟨⟨w3965, g0, gx, gm, go, by omega, by omega⟩, ⟨_, tc, tm, cu, dr, _, _, _, _, _, ce8, q3986, gtc, h3994, q3988, gtm, h3995, q3990, gcu, q3992, gdr, h3996, h3997, h3998, h3999, h4000, hC1, hC2, h4001, h4007, (h4002).1, (h4006).1, hE, hZ, (by omega), (by assumption), (by omega), (by first | assumption | exact SG_0), q4004, gce8, h3993, h4005, a3973, gm⟩, by omega, by omega⟩ (by omega) (by omega))
      · refine wl_of hX hb cL_992 (rw_iconst (pc' := 993) rfl ?_)
        exfalso
        omega
    · show WL _ _ _ _ 989 [(4, vI i), (3, .ref o), (2, .ref m), (1, .ref x), (0, .ref 0)] [vI z3967, vI z3841] _ H3961
      refine wl_of hX hb cL_989 (rw_icmp_eq (p1 := 1653) (p2 := 992) (by decide) rfl ⟨b3842.1, b3842.2⟩ ⟨b3968.1, b3968.2⟩ (fun c4008 => ?_) (fun c4008 => ?_))
      · have k4009 : H3961 x 9 = H3835 x 9 := (f3966 x 9 _ gx rfl)
        have k4010 : H3961 m 6 = H3835 m 6 := (f3966 m 6 _ gm rfl)
        have k4011 : H3961 x 11 = H3835 x 11 := (f3966 x 11 _ gx rfl)
        have k4012 : H3961 m 13 = H3835 m 13 := (f3966 m 13 _ gm rfl)
        have k4013 : H3961 x 8 = H3835 x 8 := (f3966 x 8 _ gx rfl)
        have k4014 : H3961 m 3 = H3835 m 3 := (f3966 m 3 _ gm rfl)
        have k4015 : H3961 x 0 = H x 0 := ((f3966 x 0 _ gx rfl).trans (f3840 x 0 _ gx rfl))
        have q4016 : H3961 x 0 = (tc : Int) := k4015.trans e0
        have k4017 : H3961 m 5 = H m 5 := ((f3966 m 5 _ gm rfl).trans (f3840 m 5 _ gm rfl))
        have q4018 : H3961 m 5 = (tm : Int) := k4017.trans em
        have k4019 : H3961 x 6 = H x 6 := ((f3966 x 6 _ gx rfl).trans (f3840 x 6 _ gx rfl))
        have q4020 : H3961 x 6 = (cu : Int) := k4019.trans ecu
        have k4021 : H3961 x 7 = H x 7 := ((f3966 x 7 _ gx rfl).trans (f3840 x 7 _ gx rfl))
        have q4022 : H3961 x 7 = (dr : Int) := k4021.trans edr
        have h4023 : CEN T H3961 ce8 e8 d8 := (CEN_fr w3839 gce8 f3966 rfl a3849)
        have h4024 : TP T H3961 tc B := (TP_fr w3839 gtc f3966 rfl (TP_fr hW gtc f3840 rfl htc))
        have h4025 : TM T H3961 tm B := (TM_fr w3839 gtm f3966 rfl (TM_fr hW gtm f3840 rfl htm))
        have h4026 : DD T H3961 cu  := (DD_fr w3839 gcu f3966 rfl (DD_fr hW gcu f3840 rfl hcu))
        have h4027 : DD T H3961 dr  := (DD_fr w3839 gdr f3966 rfl (DD_fr hW gdr f3840 rfl hdr))
        have h4028 : DE T H3961 cu  := (DE_fr w3839 gcu f3966 rfl (DE_fr hW gcu f3840 rfl hdec))
        have h4029 : DE T H3961 dr  := (DE_fr w3839 gdr f3966 rfl (DE_fr hW gdr f3840 rfl hded))
        have h4030 : SP T H3961 x C8 := (SP_fr w3839 gx f3966 rfl (SP_fr hW gx f3840 rfl hsp))
        have h4031 : CU T H3961 cu e8 d8 n8 := (CU_fr w3839 gcu f3966 rfl (CU_fr hW gcu f3840 rfl hcu8))
        have h4032 : CY T H3961 cu (d8 0 3) g8 (H cu 17) := (CY_fr w3839 gcu f3966 rfl (CY_fr hW gcu f3840 rfl h3828))
        have k4033 : H3961 x 3 = H x 3 := ((f3966 x 3 _ gx rfl).trans (f3840 x 3 _ gx rfl))
        have q4034 : H3961 x 3 = (ce8 : Int) := k4033.trans ece8
        have h4035 : HDR T H3961 ce8  := (HDR_fr w3839 gce8 f3966 rfl (HDR_fr hW gce8 f3840 rfl hhdr8))
        have h4036 : RY T H3961 m (d8 0 3) g8 (H m 32) := (RY_fr w3839 gm f3966 rfl (RY_fr hW gm f3840 rfl h3829))
        have h4037 : RB T H3961 m e8 d8 := (RB_fr w3839 gm f3966 rfl h3957)
        exact WL.loc hX (by simp) (next T H3961 ⟨⟨w3965, g0, gx, gm, go, by omega, by omega⟩, ⟨_, tc, tm, cu, dr, _, _, _, _, _, ce8, q4016, gtc, h4024, q4018, gtm, h4025, q4020, gcu, q4022, gdr, h4026, h4027, h4028, h4029, h4030, hC1, hC2, h4031, h4037, (h4032).1, (h4036).1, hE, hZ, (by omega), (by assumption), (by omega), (by first | assumption | exact SG_0), q4034, gce8, h4023, h4035, a3977, gm⟩, by omega, by omega⟩ (by omega) (by omega))
      · refine wl_of hX hb cL_992 (rw_iconst (pc' := 993) rfl ?_)
        exfalso
        omega
set_option maxHeartbeats 4000000 in
theorem wl_c26 {kt : Nat → Option mc_E} {CB SB : Nat} {X : mc_S → Prop} {T : wq_T} {H : wq_H} {Len x m o : Nat} {i : Int} (hX : wlX kt CB SB X) (hb : T.2.1 ≤ CB ∧ T.2.2.1 ≤ SB) (hI : wlJ Len x m o T H) (hL : Len ≤ 3072) (hi : 0 ≤ i ∧ i + 6 ≤ Len) (hb2 : T.2.1 + 20 ≤ CB ∧ T.2.2.1 + 500 ≤ SB)  (next : ∀ T' H', wlJ Len x m o T' H' → T'.2.1 ≤ T.2.1 + 20 → T'.2.2.1 ≤ T.2.2.1 + 500 → WL kt CB SB X 1653 (wlL i x m o) [] T' H') : WL kt CB SB X 994 (wlL i x m o) [] T H := by
  obtain ⟨⟨hW, g0, gx, gm, go, hK, hr⟩, hXI, hY1, hY2⟩ := hI
  refine wl_of hX hb cL_994 (rw_aload_n (pc' := 995) (v := .ref x) rfl rfl rfl ?_)
  refine wl_of hX hb cL_995 (rw_aload_n (pc' := 996) (v := .ref 0) rfl rfl rfl ?_)
  refine wl_of hX hb cL_996 (rw_iload (pc' := 998) (z := i) rfl rfl ?_)
  refine wl_of hX hb cL_998 (rw_iconst (pc' := 999) rfl ?_)
  refine wl_of hX hb cL_999 (rw_iadd (pc' := 1000) rfl ?_)
  refine wl_of hX hb cL_1000 (xa_I (so := 0) (pc' := 1001) (a := 0) hW g0 (wsh_s _) (by omega) (wty_s _ _) (by omega) (by omega) rfl (fun b4038 b4039 => ?_))
  obtain ⟨B, tc, tm, cu, dr, C8, e8, d8, n8, g8, ce8, e0, gtc, htc, em, gtm, htm, ecu, gcu, edr, gdr, hcu, hdr, hdec, hded, hsp, hC1, hC2, hcu8, hrb8, hcg8, hmn8, hE, hZ, hn8, hXA, hV8, hSG, ece8, gce8, hcen8, hhdr8, hknn8, -⟩ := hXI
  have hN3 := RB_n3 hrb8
  have hE13 : ∀ h : Nat, h < 24 → 0 ≤ e8 13 h ∧ e8 13 h ≤ 100 := fun k hk => by
    obtain ⟨s, h1, h2, h3⟩ := hcu8.1.2.2.1
    exact ⟨(h3 k hk).1, (h3 k hk).2.1⟩
  have hXW := hXA.1
  have hXN := hXA.2
  have hE0 : e8 0 3 = d8 0 3 ∧ e8 0 0 = d8 0 0 := by
    have h := hE 0 (by decide)
    exact ⟨congrFun h 3, congrFun h 0⟩
  have u4040 := CU_k hcu8
  have h4041 : CY T H cu (d8 0 3) g8 (H cu 17) := ⟨hcg8, rfl⟩
  have h4042 : RY T H m (d8 0 3) g8 (H m 32) := ⟨hmn8, rfl⟩
  obtain ⟨t9, ht9⟩ : ∃ t : Int, t = H x 9 := ⟨_, rfl⟩
  obtain ⟨y9, hy9⟩ : ∃ y : Int, y = H 0 ((i + 1).toNat) := ⟨_, rfl⟩
  obtain ⟨r4043, q4044, g4045⟩ := hW.ref gx (t' := 6) (n := 13) (j := 2) (p := 0) (q := 0) rfl (by decide) rfl
  refine wl_of hX hb cL_1001 (xc_V (pc' := 1004) (r := x) (as := [vI (H 0 ((i + 1).toNat))]) (st := []) (lm_11_130) rfl rfl (Nat.le_of_ble_eq_true rfl) hW gx sh_1 (by decide) rfl (by decide) (u_112 (e := e8) (d := d8) (n := n8) hW gx ⟨by omega, by omega⟩ ecu gcu q4044 g4045 ece8 gce8 (by assumption) (by assumption) (by omega) (by omega) (by omega) (by omega) hcu8 hcen8 hhdr8) (fun R4046 T4047 H4048 p4049 => ?_))
  obtain ⟨e4050, w4052, f4053, z4054, e4051, b4055, p4056⟩ := p4049
  subst e4050
  subst e4051
  show WL _ _ _ _ 1004 [(4, vI i), (3, .ref o), (2, .ref m), (1, .ref x), (0, .ref 0)] [vL z4054] _ H4048
  refine wl_of hX hb cL_1004 (rw_pop2 (pc' := 1005) rfl rfl ?_)
  refine wl_of hX hb cL_1005 (rw_aload_n (pc' := 1006) (v := .ref m) rfl rfl rfl ?_)
  refine wl_of hX hb cL_1006 (rw_aload_n (pc' := 1007) (v := .ref 0) rfl rfl rfl ?_)
  refine wl_of hX hb cL_1007 (rw_iload (pc' := 1009) (z := i) rfl rfl ?_)
  refine wl_of hX hb cL_1009 (rw_iconst (pc' := 1010) rfl ?_)
  refine wl_of hX hb cL_1010 (rw_iadd (pc' := 1011) rfl ?_)
  have k4060 : H4048 0 ((i + 1).toNat) = H 0 ((i + 1).toNat) := (f4053 0 ((i + 1).toNat) _ g0 (wmem_s rfl))
  refine wl_of hX hb cL_1011 (xa_I (so := 0) (pc' := 1012) (a := 0) w4052 g0 (wsh_s _) (by omega) (wty_s _ _) (by omega) (by omega) rfl (fun b4058 b4059 => ?_))
  have k4061 : wKI H4048 m = wKI H m := (wKI_fr hW gm f4053 rfl)
  have k4062 : H4048 x 9 = H x 9 := (f4053 x 9 _ gx rfl)
  have k4063 : H4048 m 6 = H m 6 := (f4053 m 6 _ gm rfl)
  have k4064 : H4048 x 11 = H x 11 := (f4053 x 11 _ gx rfl)
  have k4065 : H4048 m 13 = H m 13 := (f4053 m 13 _ gm rfl)
  have k4066 : H4048 x 8 = H x 8 := (f4053 x 8 _ gx rfl)
  have k4067 : H4048 m 3 = H m 3 := (f4053 m 3 _ gm rfl)
  rw [show H4048 0 ((i + 1).toNat) = H 0 ((i + 1).toNat) by omega]
  have h4068 : RB T H4048 m e8 d8 := (RB_fr hW gm f4053 rfl hrb8)
  have h4069 : KNN T H4048 m e8 d8 := (KNN_fr hW gm f4053 rfl hknn8)
  refine wl_of hX hb cL_1012 (xc_V (pc' := 1015) (r := m) (as := [vI (H 0 ((i + 1).toNat))]) (st := []) (lm_11_134) rfl rfl (Nat.le_of_ble_eq_true rfl) w4052 gm sh_42 (by decide) rfl (by decide) (u_260 (e := e8) (d := d8) w4052 gm ⟨by omega, by omega⟩ (by omega) (by assumption) (by assumption) (by assumption) (by assumption) h4068 h4069) (fun R4070 T4071 H4072 p4073 => ?_))
  obtain ⟨e4074, w4076, f4077, z4078, e4075, b4079, p4080⟩ := p4073
  subst e4074
  subst e4075
  obtain ⟨a4081, a4082⟩ := p4080
  show WL _ _ _ _ 1015 [(4, vI i), (3, .ref o), (2, .ref m), (1, .ref x), (0, .ref 0)] [vL z4078] _ H4072
  refine wl_of hX hb cL_1015 (rw_pop2 (pc' := 1016) rfl rfl ?_)
  refine wl_of hX hb cL_1016 (rw_goto (p1 := 1653) (by decide) ?_)
  have k4083 : H4072 x 9 = H4048 x 9 := (f4077 x 9 _ gx rfl)
  have k4084 : H4072 m 6 = H4048 m 6 := (f4077 m 6 _ gm rfl)
  have k4085 : H4072 x 11 = H4048 x 11 := (f4077 x 11 _ gx rfl)
  have k4086 : H4072 m 13 = H4048 m 13 := (f4077 m 13 _ gm rfl)
  have k4087 : H4072 x 8 = H4048 x 8 := (f4077 x 8 _ gx rfl)
  have k4088 : H4072 m 3 = H4048 m 3 := (f4077 m 3 _ gm rfl)
  have k4089 : H4072 x 0 = H x 0 := ((f4077 x 0 _ gx rfl).trans (f4053 x 0 _ gx rfl))
  have q4090 : H4072 x 0 = (tc : Int) := k4089.trans e0
  have k4091 : H4072 m 5 = H m 5 := ((f4077 m 5 _ gm rfl).trans (f4053 m 5 _ gm rfl))
  have q4092 : H4072 m 5 = (tm : Int) := k4091.trans em
  have k4093 : H4072 x 6 = H x 6 := ((f4077 x 6 _ gx rfl).trans (f4053 x 6 _ gx rfl))
  have q4094 : H4072 x 6 = (cu : Int) := k4093.trans ecu
  have k4095 : H4072 x 7 = H x 7 := ((f4077 x 7 _ gx rfl).trans (f4053 x 7 _ gx rfl))
  have q4096 : H4072 x 7 = (dr : Int) := k4095.trans edr
  have h4097 : CEN T H4072 ce8 e8 d8 := (CEN_fr w4052 gce8 f4077 rfl p4056)
  have h4098 : TP T H4072 tc B := (TP_fr w4052 gtc f4077 rfl (TP_fr hW gtc f4053 rfl htc))
  have h4099 : TM T H4072 tm B := (TM_fr w4052 gtm f4077 rfl (TM_fr hW gtm f4053 rfl htm))
  have h4100 : DD T H4072 cu  := (DD_fr w4052 gcu f4077 rfl (DD_fr hW gcu f4053 rfl hcu))
  have h4101 : DD T H4072 dr  := (DD_fr w4052 gdr f4077 rfl (DD_fr hW gdr f4053 rfl hdr))
  have h4102 : DE T H4072 cu  := (DE_fr w4052 gcu f4077 rfl (DE_fr hW gcu f4053 rfl hdec))
  have h4103 : DE T H4072 dr  := (DE_fr w4052 gdr f4077 rfl (DE_fr hW gdr f4053 rfl hded))
  have h4104 : SP T H4072 x C8 := (SP_fr w4052 gx f4077 rfl (SP_fr hW gx f4053 rfl hsp))
  have h4105 : CU T H4072 cu e8 d8 n8 := (CU_fr w4052 gcu f4077 rfl (CU_fr hW gcu f4053 rfl hcu8))
  have h4106 : CY T H4072 cu (d8 0 3) g8 (H cu 17) := (CY_fr w4052 gcu f4077 rfl (CY_fr hW gcu f4053 rfl h4041))
  have k4107 : H4072 x 3 = H x 3 := ((f4077 x 3 _ gx rfl).trans (f4053 x 3 _ gx rfl))
  have q4108 : H4072 x 3 = (ce8 : Int) := k4107.trans ece8
  have h4109 : HDR T H4072 ce8  := (HDR_fr w4052 gce8 f4077 rfl (HDR_fr hW gce8 f4053 rfl hhdr8))
  have h4110 : RY T H4072 m (d8 0 3) g8 (H m 32) := (RY_fr w4052 gm f4077 rfl (RY_fr hW gm f4053 rfl h4042))
  have h4111 : RB T H4072 m e8 d8 := (RB_fr w4052 gm f4077 rfl h4068)
  exact WL.loc hX (by simp) (next T H4072 ⟨⟨w4076, g0, gx, gm, go, by omega, by omega⟩, ⟨_, tc, tm, cu, dr, _, _, _, _, _, ce8, q4090, gtc, h4098, q4092, gtm, h4099, q4094, gcu, q4096, gdr, h4100, h4101, h4102, h4103, h4104, hC1, hC2, h4105, h4111, (h4106).1, (h4110).1, hE, hZ, (by omega), (by assumption), (by omega), (by first | assumption | exact SG_0), q4108, gce8, h4097, h4109, a4082, gm⟩, by omega, by omega⟩ (by omega) (by omega))
set_option maxHeartbeats 4000000 in
theorem wl_c27 {kt : Nat → Option mc_E} {CB SB : Nat} {X : mc_S → Prop} {T : wq_T} {H : wq_H} {Len x m o : Nat} {i : Int} (hX : wlX kt CB SB X) (hb : T.2.1 ≤ CB ∧ T.2.2.1 ≤ SB) (hI : wlJ Len x m o T H) (hL : Len ≤ 3072) (hi : 0 ≤ i ∧ i + 6 ≤ Len) (hb2 : T.2.1 + 20 ≤ CB ∧ T.2.2.1 + 500 ≤ SB)  (next : ∀ T' H', wlJ Len x m o T' H' → T'.2.1 ≤ T.2.1 + 20 → T'.2.2.1 ≤ T.2.2.1 + 500 → WL kt CB SB X 1653 (wlL i x m o) [] T' H') : WL kt CB SB X 1019 (wlL i x m o) [] T H := by
  obtain ⟨⟨hW, g0, gx, gm, go, hK, hr⟩, hXI, hY1, hY2⟩ := hI
  refine wl_of hX hb cL_1019 (rw_aload_n (pc' := 1020) (v := .ref x) rfl rfl rfl ?_)
  refine wl_of hX hb cL_1020 (rw_aload_n (pc' := 1021) (v := .ref 0) rfl rfl rfl ?_)
  refine wl_of hX hb cL_1021 (rw_iload (pc' := 1023) (z := i) rfl rfl ?_)
  refine wl_of hX hb cL_1023 (rw_iconst (pc' := 1024) rfl ?_)
  refine wl_of hX hb cL_1024 (rw_iadd (pc' := 1025) rfl ?_)
  refine wl_of hX hb cL_1025 (xa_I (so := 0) (pc' := 1026) (a := 0) hW g0 (wsh_s _) (by omega) (wty_s _ _) (by omega) (by omega) rfl (fun b4112 b4113 => ?_))
  refine wl_of hX hb cL_1026 (rw_aload_n (pc' := 1027) (v := .ref 0) rfl rfl rfl ?_)
  refine wl_of hX hb cL_1027 (rw_iload (pc' := 1029) (z := i) rfl rfl ?_)
  refine wl_of hX hb cL_1029 (rw_iconst (pc' := 1030) rfl ?_)
  refine wl_of hX hb cL_1030 (rw_iadd (pc' := 1031) rfl ?_)
  refine wl_of hX hb cL_1031 (xa_I (so := 0) (pc' := 1032) (a := 0) hW g0 (wsh_s _) (by omega) (wty_s _ _) (by omega) (by omega) rfl (fun b4114 b4115 => ?_))
  obtain ⟨B, tc, tm, cu, dr, C8, e8, d8, n8, g8, ce8, e0, gtc, htc, em, gtm, htm, ecu, gcu, edr, gdr, hcu, hdr, hdec, hded, hsp, hC1, hC2, hcu8, hrb8, hcg8, hmn8, hE, hZ, hn8, hXA, hV8, hSG, ece8, gce8, hcen8, hhdr8, hknn8, -⟩ := hXI
  have hN3 := RB_n3 hrb8
  have hE13 : ∀ h : Nat, h < 24 → 0 ≤ e8 13 h ∧ e8 13 h ≤ 100 := fun k hk => by
    obtain ⟨s, h1, h2, h3⟩ := hcu8.1.2.2.1
    exact ⟨(h3 k hk).1, (h3 k hk).2.1⟩
  have hXW := hXA.1
  have hXN := hXA.2
  have hE0 : e8 0 3 = d8 0 3 ∧ e8 0 0 = d8 0 0 := by
    have h := hE 0 (by decide)
    exact ⟨congrFun h 3, congrFun h 0⟩
  have u4116 := CU_k hcu8
  have h4117 : CY T H cu (d8 0 3) g8 (H cu 17) := ⟨hcg8, rfl⟩
  have h4118 : RY T H m (d8 0 3) g8 (H m 32) := ⟨hmn8, rfl⟩
  obtain ⟨t9, ht9⟩ : ∃ t : Int, t = H x 9 := ⟨_, rfl⟩
  obtain ⟨y9, hy9⟩ : ∃ y : Int, y = H 0 ((i + 2).toNat) := ⟨_, rfl⟩
  obtain ⟨r4119, q4120, g4121⟩ := hW.ref gx (t' := 6) (n := 13) (j := 2) (p := 0) (q := 0) rfl (by decide) rfl
  refine wl_of hX hb cL_1032 (xc_V (pc' := 1035) (r := x) (as := [vI (H 0 ((i + 1).toNat)), vI (H 0 ((i + 2).toNat))]) (st := []) (lm_11_135) rfl rfl (Nat.le_of_ble_eq_true rfl) hW gx sh_1 (by decide) rfl (by decide) (u_114 (e := e8) (d := d8) (n := n8) hW gx ⟨by omega, by omega⟩ ⟨by omega, by omega⟩ ecu gcu q4120 g4121 ece8 gce8 (by assumption) (by assumption) (by omega) (by omega) (by omega) (by omega) hcu8 hcen8 hhdr8) (fun R4122 T4123 H4124 p4125 => ?_))
  obtain ⟨e4126, w4128, f4129, z4130, e4127, b4131, p4132⟩ := p4125
  subst e4126
  subst e4127
  show WL _ _ _ _ 1035 [(4, vI i), (3, .ref o), (2, .ref m), (1, .ref x), (0, .ref 0)] [vI z4130] _ H4124
  refine wl_of hX hb cL_1035 (rw_pop (pc' := 1036) rfl rfl ?_)
  refine wl_of hX hb cL_1036 (rw_aload_n (pc' := 1037) (v := .ref m) rfl rfl rfl ?_)
  refine wl_of hX hb cL_1037 (rw_aload_n (pc' := 1038) (v := .ref 0) rfl rfl rfl ?_)
  refine wl_of hX hb cL_1038 (rw_iload (pc' := 1040) (z := i) rfl rfl ?_)
  refine wl_of hX hb cL_1040 (rw_iconst (pc' := 1041) rfl ?_)
  refine wl_of hX hb cL_1041 (rw_iadd (pc' := 1042) rfl ?_)
  have k4136 : H4124 0 ((i + 1).toNat) = H 0 ((i + 1).toNat) := (f4129 0 ((i + 1).toNat) _ g0 (wmem_s rfl))
  refine wl_of hX hb cL_1042 (xa_I (so := 0) (pc' := 1043) (a := 0) w4128 g0 (wsh_s _) (by omega) (wty_s _ _) (by omega) (by omega) rfl (fun b4134 b4135 => ?_))
  refine wl_of hX hb cL_1043 (rw_aload_n (pc' := 1044) (v := .ref 0) rfl rfl rfl ?_)
  refine wl_of hX hb cL_1044 (rw_iload (pc' := 1046) (z := i) rfl rfl ?_)
  refine wl_of hX hb cL_1046 (rw_iconst (pc' := 1047) rfl ?_)
  refine wl_of hX hb cL_1047 (rw_iadd (pc' := 1048) rfl ?_)
  have k4139 : H4124 0 ((i + 2).toNat) = H 0 ((i + 2).toNat) := (f4129 0 ((i + 2).toNat) _ g0 (wmem_s rfl))
  refine wl_of hX hb cL_1048 (xa_I (so := 0) (pc' := 1049) (a := 0) w4128 g0 (wsh_s _) (by omega) (wty_s _ _) (by omega) (by omega) rfl (fun b4137 b4138 => ?_))
  have k4140 : wKI H4124 m = wKI H m := (wKI_fr hW gm f4129 rfl)
  have k4141 : H4124 x 9 = H x 9 := (f4129 x 9 _ gx rfl)
  have k4142 : H4124 m 6 = H m 6 := (f4129 m 6 _ gm rfl)
  have k4143 : H4124 x 11 = H x 11 := (f4129 x 11 _ gx rfl)
  have k4144 : H4124 m 13 = H m 13 := (f4129 m 13 _ gm rfl)
  have k4145 : H4124 x 8 = H x 8 := (f4129 x 8 _ gx rfl)
  have k4146 : H4124 m 3 = H m 3 := (f4129 m 3 _ gm rfl)
  rw [show H4124 0 ((i + 2).toNat) = H 0 ((i + 2).toNat) by omega]
  rw [show H4124 0 ((i + 1).toNat) = H 0 ((i + 1).toNat) by omega]
  have h4147 : RB T H4124 m e8 d8 := (RB_fr hW gm f4129 rfl hrb8)
  have h4148 : KNN T H4124 m e8 d8 := (KNN_fr hW gm f4129 rfl hknn8)
  refine wl_of hX hb cL_1049 (xc_V (pc' := 1052) (r := m) (as := [vI (H 0 ((i + 1).toNat)), vI (H 0 ((i + 2).toNat))]) (st := []) (lm_11_138) rfl rfl (Nat.le_of_ble_eq_true rfl) w4128 gm sh_42 (by decide) rfl (by decide) (u_261 (e := e8) (d := d8) w4128 gm ⟨by omega, by omega⟩ ⟨by omega, by omega⟩ (by omega) (by assumption) (by assumption) (by assumption) (by assumption) h4147 h4148) (fun R4149 T4150 H4151 p4152 => ?_))
  obtain ⟨e4153, w4155, f4156, z4157, e4154, b4158, p4159⟩ := p4152
  subst e4153
  subst e4154
  obtain ⟨a4160, a4161⟩ := p4159
  show WL _ _ _ _ 1052 [(4, vI i), (3, .ref o), (2, .ref m), (1, .ref x), (0, .ref 0)] [vI z4157] _ H4151
  refine wl_of hX hb cL_1052 (rw_pop (pc' := 1053) rfl rfl ?_)
  refine wl_of hX hb cL_1053 (rw_goto (p1 := 1653) (by decide) ?_)
  have k4162 : H4151 x 9 = H4124 x 9 := (f4156 x 9 _ gx rfl)
  have k4163 : H4151 m 6 = H4124 m 6 := (f4156 m 6 _ gm rfl)
  have k4164 : H4151 x 11 = H4124 x 11 := (f4156 x 11 _ gx rfl)
  have k4165 : H4151 m 13 = H4124 m 13 := (f4156 m 13 _ gm rfl)
  have k4166 : H4151 x 8 = H4124 x 8 := (f4156 x 8 _ gx rfl)
  have k4167 : H4151 m 3 = H4124 m 3 := (f4156 m 3 _ gm rfl)
  have k4168 : H4151 x 0 = H x 0 := ((f4156 x 0 _ gx rfl).trans (f4129 x 0 _ gx rfl))
  have q4169 : H4151 x 0 = (tc : Int) := k4168.trans e0
  have k4170 : H4151 m 5 = H m 5 := ((f4156 m 5 _ gm rfl).trans (f4129 m 5 _ gm rfl))
  have q4171 : H4151 m 5 = (tm : Int) := k4170.trans em
  have k4172 : H4151 x 6 = H x 6 := ((f4156 x 6 _ gx rfl).trans (f4129 x 6 _ gx rfl))
  have q4173 : H4151 x 6 = (cu : Int) := k4172.trans ecu
  have k4174 : H4151 x 7 = H x 7 := ((f4156 x 7 _ gx rfl).trans (f4129 x 7 _ gx rfl))
  have q4175 : H4151 x 7 = (dr : Int) := k4174.trans edr
  have h4176 : CEN T H4151 ce8 e8 d8 := (CEN_fr w4128 gce8 f4156 rfl p4132)
  have h4177 : TP T H4151 tc B := (TP_fr w4128 gtc f4156 rfl (TP_fr hW gtc f4129 rfl htc))
  have h4178 : TM T H4151 tm B := (TM_fr w4128 gtm f4156 rfl (TM_fr hW gtm f4129 rfl htm))
  have h4179 : DD T H4151 cu  := (DD_fr w4128 gcu f4156 rfl (DD_fr hW gcu f4129 rfl hcu))
  have h4180 : DD T H4151 dr  := (DD_fr w4128 gdr f4156 rfl (DD_fr hW gdr f4129 rfl hdr))
  have h4181 : DE T H4151 cu  := (DE_fr w4128 gcu f4156 rfl (DE_fr hW gcu f4129 rfl hdec))
  have h4182 : DE T H4151 dr  := (DE_fr w4128 gdr f4156 rfl (DE_fr hW gdr f4129 rfl hded))
  have h4183 : SP T H4151 x C8 := (SP_fr w4128 gx f4156 rfl (SP_fr hW gx f4129 rfl hsp))
  have h4184 : CU T H4151 cu e8 d8 n8 := (CU_fr w4128 gcu f4156 rfl (CU_fr hW gcu f4129 rfl hcu8))
  have h4185 : CY T H4151 cu (d8 0 3) g8 (H cu 17) := (CY_fr w4128 gcu f4156 rfl (CY_fr hW gcu f4129 rfl h4117))
  have k4186 : H4151 x 3 = H x 3 := ((f4156 x 3 _ gx rfl).trans (f4129 x 3 _ gx rfl))
  have q4187 : H4151 x 3 = (ce8 : Int) := k4186.trans ece8
  have h4188 : HDR T H4151 ce8  := (HDR_fr w4128 gce8 f4156 rfl (HDR_fr hW gce8 f4129 rfl hhdr8))
  have h4189 : RY T H4151 m (d8 0 3) g8 (H m 32) := (RY_fr w4128 gm f4156 rfl (RY_fr hW gm f4129 rfl h4118))
  have h4190 : RB T H4151 m e8 d8 := (RB_fr w4128 gm f4156 rfl h4147)
  exact WL.loc hX (by simp) (next T H4151 ⟨⟨w4155, g0, gx, gm, go, by omega, by omega⟩, ⟨_, tc, tm, cu, dr, _, _, _, _, _, ce8, q4169, gtc, h4177, q4171, gtm, h4178, q4173, gcu, q4175, gdr, h4179, h4180, h4181, h4182, h4183, hC1, hC2, h4184, h4190, (h4185).1, (h4189).1, hE, hZ, (by omega), (by assumption), (by omega), (by first | assumption | exact SG_0), q4187, gce8, h4176, h4188, a4161, gm⟩, by omega, by omega⟩ (by omega) (by omega))
set_option maxHeartbeats 4000000 in
theorem wl_c28 {kt : Nat → Option mc_E} {CB SB : Nat} {X : mc_S → Prop} {T : wq_T} {H : wq_H} {Len x m o : Nat} {i : Int} (hX : wlX kt CB SB X) (hb : T.2.1 ≤ CB ∧ T.2.2.1 ≤ SB) (hI : wlJ Len x m o T H) (hL : Len ≤ 3072) (hi : 0 ≤ i ∧ i + 6 ≤ Len) (hb2 : T.2.1 + 20 ≤ CB ∧ T.2.2.1 + 500 ≤ SB)  (next : ∀ T' H', wlJ Len x m o T' H' → T'.2.1 ≤ T.2.1 + 20 → T'.2.2.1 ≤ T.2.2.1 + 500 → WL kt CB SB X 1653 (wlL i x m o) [] T' H') : WL kt CB SB X 1056 (wlL i x m o) [] T H := by
  obtain ⟨⟨hW, g0, gx, gm, go, hK, hr⟩, hXI, hY1, hY2⟩ := hI
  refine wl_of hX hb cL_1056 (rw_aload_n (pc' := 1057) (v := .ref x) rfl rfl rfl ?_)
  refine wl_of hX hb cL_1057 (rw_aload_n (pc' := 1058) (v := .ref 0) rfl rfl rfl ?_)
  refine wl_of hX hb cL_1058 (rw_iload (pc' := 1060) (z := i) rfl rfl ?_)
  refine wl_of hX hb cL_1060 (rw_iconst (pc' := 1061) rfl ?_)
  refine wl_of hX hb cL_1061 (rw_iadd (pc' := 1062) rfl ?_)
  refine wl_of hX hb cL_1062 (xa_I (so := 0) (pc' := 1063) (a := 0) hW g0 (wsh_s _) (by omega) (wty_s _ _) (by omega) (by omega) rfl (fun b4191 b4192 => ?_))
  refine wl_of hX hb cL_1063 (rw_aload_n (pc' := 1064) (v := .ref 0) rfl rfl rfl ?_)
  refine wl_of hX hb cL_1064 (rw_iload (pc' := 1066) (z := i) rfl rfl ?_)
  refine wl_of hX hb cL_1066 (rw_iconst (pc' := 1067) rfl ?_)
  refine wl_of hX hb cL_1067 (rw_iadd (pc' := 1068) rfl ?_)
  refine wl_of hX hb cL_1068 (xa_I (so := 0) (pc' := 1069) (a := 0) hW g0 (wsh_s _) (by omega) (wty_s _ _) (by omega) (by omega) rfl (fun b4193 b4194 => ?_))
  refine wl_of hX hb cL_1069 (rw_if_eq (p1 := 1076) (p2 := 1072) (by decide) rfl ⟨by omega, by omega⟩ (fun c4195 => ?_) (fun c4195 => ?_))
  · refine wl_of hX hb cL_1076 (rw_iconst (pc' := 1077) rfl ?_)
    obtain ⟨B, tc, tm, cu, dr, C8, e8, d8, n8, g8, ce8, e0, gtc, htc, em, gtm, htm, ecu, gcu, edr, gdr, hcu, hdr, hdec, hded, hsp, hC1, hC2, hcu8, hrb8, hcg8, hmn8, hE, hZ, hn8, hXA, hV8, hSG, ece8, gce8, hcen8, hhdr8, hknn8, -⟩ := hXI
    have hN3 := RB_n3 hrb8
    have hE13 : ∀ h : Nat, h < 24 → 0 ≤ e8 13 h ∧ e8 13 h ≤ 100 := fun k hk => by
      obtain ⟨s, h1, h2, h3⟩ := hcu8.1.2.2.1
      exact ⟨(h3 k hk).1, (h3 k hk).2.1⟩
    have hXW := hXA.1
    have hXN := hXA.2
    have hE0 : e8 0 3 = d8 0 3 ∧ e8 0 0 = d8 0 0 := by
      have h := hE 0 (by decide)
      exact ⟨congrFun h 3, congrFun h 0⟩
    have u4196 := CU_k hcu8
    have h4197 : CY T H cu (d8 0 3) g8 (H cu 17) := ⟨hcg8, rfl⟩
    have h4198 : RY T H m (d8 0 3) g8 (H m 32) := ⟨hmn8, rfl⟩
    obtain ⟨t9, ht9⟩ : ∃ t : Int, t = H x 9 := ⟨_, rfl⟩
    obtain ⟨y9, hy9⟩ : ∃ y : Int, y = 0 := ⟨_, rfl⟩
    obtain ⟨r4199, q4200, g4201⟩ := hW.ref gx (t' := 6) (n := 13) (j := 2) (p := 0) (q := 0) rfl (by decide) rfl
    refine wl_of hX hb cL_1077 (xc_V (pc' := 1080) (r := x) (as := [vI (H 0 ((i + 1).toNat)), vI 0]) (st := []) (lm_11_139) rfl rfl (Nat.le_of_ble_eq_true rfl) hW gx sh_1 (by decide) rfl (by decide) (u_117 (e := e8) (d := d8) (n := n8) hW gx ⟨by omega, by omega⟩ ⟨by decide, by decide⟩ ecu gcu q4200 g4201 ece8 gce8 (by assumption) (by assumption) (by omega) (by omega) (by omega) (by omega) hcu8 hcen8 hhdr8) (fun R4202 T4203 H4204 p4205 => ?_))
    obtain ⟨e4206, w4208, f4209, z4210, e4207, b4211, p4212⟩ := p4205
    subst e4206
    subst e4207
    show WL _ _ _ _ 1080 [(4, vI i), (3, .ref o), (2, .ref m), (1, .ref x), (0, .ref 0)] [vI z4210] _ H4204
    refine wl_of hX hb cL_1080 (rw_pop (pc' := 1081) rfl rfl ?_)
    refine wl_of hX hb cL_1081 (rw_aload_n (pc' := 1082) (v := .ref m) rfl rfl rfl ?_)
    refine wl_of hX hb cL_1082 (rw_aload_n (pc' := 1083) (v := .ref 0) rfl rfl rfl ?_)
    refine wl_of hX hb cL_1083 (rw_iload (pc' := 1085) (z := i) rfl rfl ?_)
    refine wl_of hX hb cL_1085 (rw_iconst (pc' := 1086) rfl ?_)
    refine wl_of hX hb cL_1086 (rw_iadd (pc' := 1087) rfl ?_)
    have k4216 : H4204 0 ((i + 1).toNat) = H 0 ((i + 1).toNat) := (f4209 0 ((i + 1).toNat) _ g0 (wmem_s rfl))
    refine wl_of hX hb cL_1087 (xa_I (so := 0) (pc' := 1088) (a := 0) w4208 g0 (wsh_s _) (by omega) (wty_s _ _) (by omega) (by omega) rfl (fun b4214 b4215 => ?_))
    refine wl_of hX hb cL_1088 (rw_aload_n (pc' := 1089) (v := .ref 0) rfl rfl rfl ?_)
    refine wl_of hX hb cL_1089 (rw_iload (pc' := 1091) (z := i) rfl rfl ?_)
    refine wl_of hX hb cL_1091 (rw_iconst (pc' := 1092) rfl ?_)
    refine wl_of hX hb cL_1092 (rw_iadd (pc' := 1093) rfl ?_)
    have k4219 : H4204 0 ((i + 2).toNat) = H 0 ((i + 2).toNat) := (f4209 0 ((i + 2).toNat) _ g0 (wmem_s rfl))
    refine wl_of hX hb cL_1093 (xa_I (so := 0) (pc' := 1094) (a := 0) w4208 g0 (wsh_s _) (by omega) (wty_s _ _) (by omega) (by omega) rfl (fun b4217 b4218 => ?_))
    refine wl_of hX hb cL_1094 (rw_if_eq (p1 := 1101) (p2 := 1097) (by decide) rfl ⟨by omega, by omega⟩ (fun c4220 => ?_) (fun c4220 => ?_))
    · refine wl_of hX hb cL_1101 (rw_iconst (pc' := 1102) rfl ?_)
      have k4221 : wKI H4204 m = wKI H m := (wKI_fr hW gm f4209 rfl)
      have k4222 : H4204 x 9 = H x 9 := (f4209 x 9 _ gx rfl)
      have k4223 : H4204 m 6 = H m 6 := (f4209 m 6 _ gm rfl)
      have k4224 : H4204 x 11 = H x 11 := (f4209 x 11 _ gx rfl)
      have k4225 : H4204 m 13 = H m 13 := (f4209 m 13 _ gm rfl)
      have k4226 : H4204 x 8 = H x 8 := (f4209 x 8 _ gx rfl)
      have k4227 : H4204 m 3 = H m 3 := (f4209 m 3 _ gm rfl)
      rw [show H4204 0 ((i + 1).toNat) = H 0 ((i + 1).toNat) by omega]
      have h4228 : RB T H4204 m e8 d8 := (RB_fr hW gm f4209 rfl hrb8)
      have h4229 : KNN T H4204 m e8 d8 := (KNN_fr hW gm f4209 rfl hknn8)
      refine wl_of hX hb cL_1102 (xc_V (pc' := 1105) (r := m) (as := [vI (H 0 ((i + 1).toNat)), vI 0]) (st := []) (lm_11_142) rfl rfl (Nat.le_of_ble_eq_true rfl) w4208 gm sh_42 (by decide) rfl (by decide) (u_263 (e := e8) (d := d8) w4208 gm ⟨by omega, by omega⟩ ⟨by decide, by decide⟩ (by omega) (by assumption) (by assumption) (by assumption) (by assumption) h4228 h4229) (fun R4230 T4231 H4232 p4233 => ?_))
      obtain ⟨e4234, w4236, f4237, z4238, e4235, b4239, p4240⟩ := p4233
      subst e4234
      subst e4235
      obtain ⟨a4241, a4242⟩ := p4240
      show WL _ _ _ _ 1105 [(4, vI i), (3, .ref o), (2, .ref m), (1, .ref x), (0, .ref 0)] [vI z4238] _ H4232
      refine wl_of hX hb cL_1105 (rw_pop (pc' := 1106) rfl rfl ?_)
      refine wl_of hX hb cL_1106 (rw_goto (p1 := 1653) (by decide) ?_)
      have k4243 : H4232 x 9 = H4204 x 9 := (f4237 x 9 _ gx rfl)
      have k4244 : H4232 m 6 = H4204 m 6 := (f4237 m 6 _ gm rfl)
      have k4245 : H4232 x 11 = H4204 x 11 := (f4237 x 11 _ gx rfl)
      have k4246 : H4232 m 13 = H4204 m 13 := (f4237 m 13 _ gm rfl)
      have k4247 : H4232 x 8 = H4204 x 8 := (f4237 x 8 _ gx rfl)
      have k4248 : H4232 m 3 = H4204 m 3 := (f4237 m 3 _ gm rfl)
      have k4249 : H4232 x 0 = H x 0 := ((f4237 x 0 _ gx rfl).trans (f4209 x 0 _ gx rfl))
      have q4250 : H4232 x 0 = (tc : Int) := k4249.trans e0
      have k4251 : H4232 m 5 = H m 5 := ((f4237 m 5 _ gm rfl).trans (f4209 m 5 _ gm rfl))
      have q4252 : H4232 m 5 = (tm : Int) := k4251.trans em
      have k4253 : H4232 x 6 = H x 6 := ((f4237 x 6 _ gx rfl).trans (f4209 x 6 _ gx rfl))
      have q4254 : H4232 x 6 = (cu : Int) := k4253.trans ecu
      have k4255 : H4232 x 7 = H x 7 := ((f4237 x 7 _ gx rfl).trans (f4209 x 7 _ gx rfl))
      have q4256 : H4232 x 7 = (dr : Int) := k4255.trans edr
      have h4257 : CEN T H4232 ce8 e8 d8 := (CEN_fr w4208 gce8 f4237 rfl p4212)
      have h4258 : TP T H4232 tc B := (TP_fr w4208 gtc f4237 rfl (TP_fr hW gtc f4209 rfl htc))
      have h4259 : TM T H4232 tm B := (TM_fr w4208 gtm f4237 rfl (TM_fr hW gtm f4209 rfl htm))
      have h4260 : DD T H4232 cu  := (DD_fr w4208 gcu f4237 rfl (DD_fr hW gcu f4209 rfl hcu))
      have h4261 : DD T H4232 dr  := (DD_fr w4208 gdr f4237 rfl (DD_fr hW gdr f4209 rfl hdr))
      have h4262 : DE T H4232 cu  := (DE_fr w4208 gcu f4237 rfl (DE_fr hW gcu f4209 rfl hdec))
      have h4263 : DE T H4232 dr  := (DE_fr w4208 gdr f4237 rfl (DE_fr hW gdr f4209 rfl hded))
      have h4264 : SP T H4232 x C8 := (SP_fr w4208 gx f4237 rfl (SP_fr hW gx f4209 rfl hsp))
      have h4265 : CU T H4232 cu e8 d8 n8 := (CU_fr w4208 gcu f4237 rfl (CU_fr hW gcu f4209 rfl hcu8))
      have h4266 : CY T H4232 cu (d8 0 3) g8 (H cu 17) := (CY_fr w4208 gcu f4237 rfl (CY_fr hW gcu f4209 rfl h4197))
      have k4267 : H4232 x 3 = H x 3 := ((f4237 x 3 _ gx rfl).trans (f4209 x 3 _ gx rfl))
      have q4268 : H4232 x 3 = (ce8 : Int) := k4267.trans ece8
      have h4269 : HDR T H4232 ce8  := (HDR_fr w4208 gce8 f4237 rfl (HDR_fr hW gce8 f4209 rfl hhdr8))
      have h4270 : RY T H4232 m (d8 0 3) g8 (H m 32) := (RY_fr w4208 gm f4237 rfl (RY_fr hW gm f4209 rfl h4198))
      have h4271 : RB T H4232 m e8 d8 := (RB_fr w4208 gm f4237 rfl h4228)
      exact WL.loc hX (by simp) (next T H4232 ⟨⟨w4236, g0, gx, gm, go, by omega, by omega⟩, ⟨_, tc, tm, cu, dr, _, _, _, _, _, ce8, q4250, gtc, h4258, q4252, gtm, h4259, q4254, gcu, q4256, gdr, h4260, h4261, h4262, h4263, h4264, hC1, hC2, h4265, h4271, (h4266).1, (h4270).1, hE, hZ, (by omega), (by assumption), (by omega), (by first | assumption | exact SG_0), q4268, gce8, h4257, h4269, a4242, gm⟩, by omega, by omega⟩ (by omega) (by omega))
    · exfalso
      omega
  · refine wl_of hX hb cL_1072 (rw_iconst (pc' := 1073) rfl ?_)
    refine wl_of hX hb cL_1073 (rw_goto (p1 := 1077) (by decide) ?_)
    obtain ⟨B, tc, tm, cu, dr, C8, e8, d8, n8, g8, ce8, e0, gtc, htc, em, gtm, htm, ecu, gcu, edr, gdr, hcu, hdr, hdec, hded, hsp, hC1, hC2, hcu8, hrb8, hcg8, hmn8, hE, hZ, hn8, hXA, hV8, hSG, ece8, gce8, hcen8, hhdr8, hknn8, -⟩ := hXI
    have hN3 := RB_n3 hrb8
    have hE13 : ∀ h : Nat, h < 24 → 0 ≤ e8 13 h ∧ e8 13 h ≤ 100 := fun k hk => by
      obtain ⟨s, h1, h2, h3⟩ := hcu8.1.2.2.1
      exact ⟨(h3 k hk).1, (h3 k hk).2.1⟩
    have hXW := hXA.1
    have hXN := hXA.2
    have hE0 : e8 0 3 = d8 0 3 ∧ e8 0 0 = d8 0 0 := by
      have h := hE 0 (by decide)
      exact ⟨congrFun h 3, congrFun h 0⟩
    have u4272 := CU_k hcu8
    have h4273 : CY T H cu (d8 0 3) g8 (H cu 17) := ⟨hcg8, rfl⟩
    have h4274 : RY T H m (d8 0 3) g8 (H m 32) := ⟨hmn8, rfl⟩
    obtain ⟨t9, ht9⟩ : ∃ t : Int, t = H x 9 := ⟨_, rfl⟩
    obtain ⟨y9, hy9⟩ : ∃ y : Int, y = 1 := ⟨_, rfl⟩
    obtain ⟨r4275, q4276, g4277⟩ := hW.ref gx (t' := 6) (n := 13) (j := 2) (p := 0) (q := 0) rfl (by decide) rfl
    refine wl_of hX hb cL_1077 (xc_V (pc' := 1080) (r := x) (as := [vI (H 0 ((i + 1).toNat)), vI 1]) (st := []) (lm_11_139) rfl rfl (Nat.le_of_ble_eq_true rfl) hW gx sh_1 (by decide) rfl (by decide) (u_117 (e := e8) (d := d8) (n := n8) hW gx ⟨by omega, by omega⟩ ⟨by decide, by decide⟩ ecu gcu q4276 g4277 ece8 gce8 (by assumption) (by assumption) (by omega) (by omega) (by omega) (by omega) hcu8 hcen8 hhdr8) (fun R4278 T4279 H4280 p4281 => ?_))
    obtain ⟨e4282, w4284, f4285, z4286, e4283, b4287, p4288⟩ := p4281
    subst e4282
    subst e4283
    show WL _ _ _ _ 1080 [(4, vI i), (3, .ref o), (2, .ref m), (1, .ref x), (0, .ref 0)] [vI z4286] _ H4280
    refine wl_of hX hb cL_1080 (rw_pop (pc' := 1081) rfl rfl ?_)
    refine wl_of hX hb cL_1081 (rw_aload_n (pc' := 1082) (v := .ref m) rfl rfl rfl ?_)
    refine wl_of hX hb cL_1082 (rw_aload_n (pc' := 1083) (v := .ref 0) rfl rfl rfl ?_)
    refine wl_of hX hb cL_1083 (rw_iload (pc' := 1085) (z := i) rfl rfl ?_)
    refine wl_of hX hb cL_1085 (rw_iconst (pc' := 1086) rfl ?_)
    refine wl_of hX hb cL_1086 (rw_iadd (pc' := 1087) rfl ?_)
    have k4292 : H4280 0 ((i + 1).toNat) = H 0 ((i + 1).toNat) := (f4285 0 ((i + 1).toNat) _ g0 (wmem_s rfl))
    refine wl_of hX hb cL_1087 (xa_I (so := 0) (pc' := 1088) (a := 0) w4284 g0 (wsh_s _) (by omega) (wty_s _ _) (by omega) (by omega) rfl (fun b4290 b4291 => ?_))
    refine wl_of hX hb cL_1088 (rw_aload_n (pc' := 1089) (v := .ref 0) rfl rfl rfl ?_)
    refine wl_of hX hb cL_1089 (rw_iload (pc' := 1091) (z := i) rfl rfl ?_)
    refine wl_of hX hb cL_1091 (rw_iconst (pc' := 1092) rfl ?_)
    refine wl_of hX hb cL_1092 (rw_iadd (pc' := 1093) rfl ?_)
    have k4295 : H4280 0 ((i + 2).toNat) = H 0 ((i + 2).toNat) := (f4285 0 ((i + 2).toNat) _ g0 (wmem_s rfl))
    refine wl_of hX hb cL_1093 (xa_I (so := 0) (pc' := 1094) (a := 0) w4284 g0 (wsh_s _) (by omega) (wty_s _ _) (by omega) (by omega) rfl (fun b4293 b4294 => ?_))
    refine wl_of hX hb cL_1094 (rw_if_eq (p1 := 1101) (p2 := 1097) (by decide) rfl ⟨by omega, by omega⟩ (fun c4296 => ?_) (fun c4296 => ?_))
    · refine wl_of hX hb cL_1101 (rw_iconst (pc' := 1102) rfl ?_)
      have k4297 : wKI H4280 m = wKI H m := (wKI_fr hW gm f4285 rfl)
      have k4298 : H4280 x 9 = H x 9 := (f4285 x 9 _ gx rfl)
      have k4299 : H4280 m 6 = H m 6 := (f4285 m 6 _ gm rfl)
      have k4300 : H4280 x 11 = H x 11 := (f4285 x 11 _ gx rfl)
      have k4301 : H4280 m 13 = H m 13 := (f4285 m 13 _ gm rfl)
      have k4302 : H4280 x 8 = H x 8 := (f4285 x 8 _ gx rfl)
      have k4303 : H4280 m 3 = H m 3 := (f4285 m 3 _ gm rfl)
      rw [show H4280 0 ((i + 1).toNat) = H 0 ((i + 1).toNat) by omega]
      have h4304 : RB T H4280 m e8 d8 := (RB_fr hW gm f4285 rfl hrb8)
      have h4305 : KNN T H4280 m e8 d8 := (KNN_fr hW gm f4285 rfl hknn8)
      refine wl_of hX hb cL_1102 (xc_V (pc' := 1105) (r := m) (as := [vI (H 0 ((i + 1).toNat)), vI 0]) (st := []) (lm_11_142) rfl rfl (Nat.le_of_ble_eq_true rfl) w4284 gm sh_42 (by decide) rfl (by decide) (u_263 (e := e8) (d := d8) w4284 gm ⟨by omega, by omega⟩ ⟨by decide, by decide⟩ (by omega) (by assumption) (by assumption) (by assumption) (by assumption) h4304 h4305) (fun R4306 T4307 H4308 p4309 => ?_))
      obtain ⟨e4310, w4312, f4313, z4314, e4311, b4315, p4316⟩ := p4309
      subst e4310
      subst e4311
      obtain ⟨a4317, a4318⟩ := p4316
      show WL _ _ _ _ 1105 [(4, vI i), (3, .ref o), (2, .ref m), (1, .ref x), (0, .ref 0)] [vI z4314] _ H4308
      refine wl_of hX hb cL_1105 (rw_pop (pc' := 1106) rfl rfl ?_)
      refine wl_of hX hb cL_1106 (rw_goto (p1 := 1653) (by decide) ?_)
      have k4319 : H4308 x 9 = H4280 x 9 := (f4313 x 9 _ gx rfl)
      have k4320 : H4308 m 6 = H4280 m 6 := (f4313 m 6 _ gm rfl)
      have k4321 : H4308 x 11 = H4280 x 11 := (f4313 x 11 _ gx rfl)
      have k4322 : H4308 m 13 = H4280 m 13 := (f4313 m 13 _ gm rfl)
      have k4323 : H4308 x 8 = H4280 x 8 := (f4313 x 8 _ gx rfl)
      have k4324 : H4308 m 3 = H4280 m 3 := (f4313 m 3 _ gm rfl)
      have k4325 : H4308 x 0 = H x 0 := ((f4313 x 0 _ gx rfl).trans (f4285 x 0 _ gx rfl))
      have q4326 : H4308 x 0 = (tc : Int) := k4325.trans e0
      have k4327 : H4308 m 5 = H m 5 := ((f4313 m 5 _ gm rfl).trans (f4285 m 5 _ gm rfl))
      have q4328 : H4308 m 5 = (tm : Int) := k4327.trans em
      have k4329 : H4308 x 6 = H x 6 := ((f4313 x 6 _ gx rfl).trans (f4285 x 6 _ gx rfl))
      have q4330 : H4308 x 6 = (cu : Int) := k4329.trans ecu
      have k4331 : H4308 x 7 = H x 7 := ((f4313 x 7 _ gx rfl).trans (f4285 x 7 _ gx rfl))
      have q4332 : H4308 x 7 = (dr : Int) := k4331.trans edr
      have h4333 : CEN T H4308 ce8 e8 d8 := (CEN_fr w4284 gce8 f4313 rfl p4288)
      have h4334 : TP T H4308 tc B := (TP_fr w4284 gtc f4313 rfl (TP_fr hW gtc f4285 rfl htc))
      have h4335 : TM T H4308 tm B := (TM_fr w4284 gtm f4313 rfl (TM_fr hW gtm f4285 rfl htm))
      have h4336 : DD T H4308 cu  := (DD_fr w4284 gcu f4313 rfl (DD_fr hW gcu f4285 rfl hcu))
      have h4337 : DD T H4308 dr  := (DD_fr w4284 gdr f4313 rfl (DD_fr hW gdr f4285 rfl hdr))
      have h4338 : DE T H4308 cu  := (DE_fr w4284 gcu f4313 rfl (DE_fr hW gcu f4285 rfl hdec))
      have h4339 : DE T H4308 dr  := (DE_fr w4284 gdr f4313 rfl (DE_fr hW gdr f4285 rfl hded))
      have h4340 : SP T H4308 x C8 := (SP_fr w4284 gx f4313 rfl (SP_fr hW gx f4285 rfl hsp))
      have h4341 : CU T H4308 cu e8 d8 n8 := (CU_fr w4284 gcu f4313 rfl (CU_fr hW gcu f4285 rfl hcu8))
      have h4342 : CY T H4308 cu (d8 0 3) g8 (H cu 17) := (CY_fr w4284 gcu f4313 rfl (CY_fr hW gcu f4285 rfl h4273))
      have k4343 : H4308 x 3 = H x 3 := ((f4313 x 3 _ gx rfl).trans (f4285 x 3 _ gx rfl))
      have q4344 : H4308 x 3 = (ce8 : Int) := k4343.trans ece8
      have h4345 : HDR T H4308 ce8  := (HDR_fr w4284 gce8 f4313 rfl (HDR_fr hW gce8 f4285 rfl hhdr8))
      have h4346 : RY T H4308 m (d8 0 3) g8 (H m 32) := (RY_fr w4284 gm f4313 rfl (RY_fr hW gm f4285 rfl h4274))
      have h4347 : RB T H4308 m e8 d8 := (RB_fr w4284 gm f4313 rfl h4304)
      exact WL.loc hX (by simp) (next T H4308 ⟨⟨w4312, g0, gx, gm, go, by omega, by omega⟩, ⟨_, tc, tm, cu, dr, _, _, _, _, _, ce8, q4326, gtc, h4334, q4328, gtm, h4335, q4330, gcu, q4332, gdr, h4336, h4337, h4338, h4339, h4340, hC1, hC2, h4341, h4347, (h4342).1, (h4346).1, hE, hZ, (by omega), (by assumption), (by omega), (by first | assumption | exact SG_0), q4344, gce8, h4333, h4345, a4318, gm⟩, by omega, by omega⟩ (by omega) (by omega))
    · refine wl_of hX hb cL_1097 (rw_iconst (pc' := 1098) rfl ?_)
      refine wl_of hX hb cL_1098 (rw_goto (p1 := 1102) (by decide) ?_)
      have k4348 : wKI H4280 m = wKI H m := (wKI_fr hW gm f4285 rfl)
      have k4349 : H4280 x 9 = H x 9 := (f4285 x 9 _ gx rfl)
      have k4350 : H4280 m 6 = H m 6 := (f4285 m 6 _ gm rfl)
      have k4351 : H4280 x 11 = H x 11 := (f4285 x 11 _ gx rfl)
      have k4352 : H4280 m 13 = H m 13 := (f4285 m 13 _ gm rfl)
      have k4353 : H4280 x 8 = H x 8 := (f4285 x 8 _ gx rfl)
      have k4354 : H4280 m 3 = H m 3 := (f4285 m 3 _ gm rfl)
      rw [show H4280 0 ((i + 1).toNat) = H 0 ((i + 1).toNat) by omega]
      have h4355 : RB T H4280 m e8 d8 := (RB_fr hW gm f4285 rfl hrb8)
      have h4356 : KNN T H4280 m e8 d8 := (KNN_fr hW gm f4285 rfl hknn8)
      refine wl_of hX hb cL_1102 (xc_V (pc' := 1105) (r := m) (as := [vI (H 0 ((i + 1).toNat)), vI 1]) (st := []) (lm_11_142) rfl rfl (Nat.le_of_ble_eq_true rfl) w4284 gm sh_42 (by decide) rfl (by decide) (u_263 (e := e8) (d := d8) w4284 gm ⟨by omega, by omega⟩ ⟨by decide, by decide⟩ (by omega) (by assumption) (by assumption) (by assumption) (by assumption) h4355 h4356) (fun R4357 T4358 H4359 p4360 => ?_))
      obtain ⟨e4361, w4363, f4364, z4365, e4362, b4366, p4367⟩ := p4360
      subst e4361
      subst e4362
      obtain ⟨a4368, a4369⟩ := p4367
      show WL _ _ _ _ 1105 [(4, vI i), (3, .ref o), (2, .ref m), (1, .ref x), (0, .ref 0)] [vI z4365] _ H4359
      refine wl_of hX hb cL_1105 (rw_pop (pc' := 1106) rfl rfl ?_)
      refine wl_of hX hb cL_1106 (rw_goto (p1 := 1653) (by decide) ?_)
      have k4370 : H4359 x 9 = H4280 x 9 := (f4364 x 9 _ gx rfl)
      have k4371 : H4359 m 6 = H4280 m 6 := (f4364 m 6 _ gm rfl)
      have k4372 : H4359 x 11 = H4280 x 11 := (f4364 x 11 _ gx rfl)
      have k4373 : H4359 m 13 = H4280 m 13 := (f4364 m 13 _ gm rfl)
      have k4374 : H4359 x 8 = H4280 x 8 := (f4364 x 8 _ gx rfl)
      have k4375 : H4359 m 3 = H4280 m 3 := (f4364 m 3 _ gm rfl)
      have k4376 : H4359 x 0 = H x 0 := ((f4364 x 0 _ gx rfl).trans (f4285 x 0 _ gx rfl))
      have q4377 : H4359 x 0 = (tc : Int) := k4376.trans e0
      have k4378 : H4359 m 5 = H m 5 := ((f4364 m 5 _ gm rfl).trans (f4285 m 5 _ gm rfl))
      have q4379 : H4359 m 5 = (tm : Int) := k4378.trans em
      have k4380 : H4359 x 6 = H x 6 := ((f4364 x 6 _ gx rfl).trans (f4285 x 6 _ gx rfl))
      have q4381 : H4359 x 6 = (cu : Int) := k4380.trans ecu
      have k4382 : H4359 x 7 = H x 7 := ((f4364 x 7 _ gx rfl).trans (f4285 x 7 _ gx rfl))
      have q4383 : H4359 x 7 = (dr : Int) := k4382.trans edr
      have h4384 : CEN T H4359 ce8 e8 d8 := (CEN_fr w4284 gce8 f4364 rfl p4288)
      have h4385 : TP T H4359 tc B := (TP_fr w4284 gtc f4364 rfl (TP_fr hW gtc f4285 rfl htc))
      have h4386 : TM T H4359 tm B := (TM_fr w4284 gtm f4364 rfl (TM_fr hW gtm f4285 rfl htm))
      have h4387 : DD T H4359 cu  := (DD_fr w4284 gcu f4364 rfl (DD_fr hW gcu f4285 rfl hcu))
      have h4388 : DD T H4359 dr  := (DD_fr w4284 gdr f4364 rfl (DD_fr hW gdr f4285 rfl hdr))
      have h4389 : DE T H4359 cu  := (DE_fr w4284 gcu f4364 rfl (DE_fr hW gcu f4285 rfl hdec))
      have h4390 : DE T H4359 dr  := (DE_fr w4284 gdr f4364 rfl (DE_fr hW gdr f4285 rfl hded))
      have h4391 : SP T H4359 x C8 := (SP_fr w4284 gx f4364 rfl (SP_fr hW gx f4285 rfl hsp))
      have h4392 : CU T H4359 cu e8 d8 n8 := (CU_fr w4284 gcu f4364 rfl (CU_fr hW gcu f4285 rfl hcu8))
      have h4393 : CY T H4359 cu (d8 0 3) g8 (H cu 17) := (CY_fr w4284 gcu f4364 rfl (CY_fr hW gcu f4285 rfl h4273))
      have k4394 : H4359 x 3 = H x 3 := ((f4364 x 3 _ gx rfl).trans (f4285 x 3 _ gx rfl))
      have q4395 : H4359 x 3 = (ce8 : Int) := k4394.trans ece8
      have h4396 : HDR T H4359 ce8  := (HDR_fr w4284 gce8 f4364 rfl (HDR_fr hW gce8 f4285 rfl hhdr8))
      have h4397 : RY T H4359 m (d8 0 3) g8 (H m 32) := (RY_fr w4284 gm f4364 rfl (RY_fr hW gm f4285 rfl h4274))
      have h4398 : RB T H4359 m e8 d8 := (RB_fr w4284 gm f4364 rfl h4355)
      exact WL.loc hX (by simp) (next T H4359 ⟨⟨w4363, g0, gx, gm, go, by omega, by omega⟩, ⟨_, tc, tm, cu, dr, _, _, _, _, _, ce8, q4377, gtc, h4385, q4379, gtm, h4386, q4381, gcu, q4383, gdr, h4387, h4388, h4389, h4390, h4391, hC1, hC2, h4392, h4398, (h4393).1, (h4397).1, hE, hZ, (by omega), (by assumption), (by omega), (by first | assumption | exact SG_0), q4395, gce8, h4384, h4396, a4369, gm⟩, by omega, by omega⟩ (by omega) (by omega))
