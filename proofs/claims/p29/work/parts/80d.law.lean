/-! THE LAW, GONE ON WITH (own work) -/
set_option maxHeartbeats 4000000 in
theorem wl_c22 {kt : Nat → Option mc_E} {CB SB : Nat} {X : mc_S → Prop} {T : wq_T} {H : wq_H} {Len x m o : Nat} {i : Int} (hX : wlX kt CB SB X) (hb : T.2.1 ≤ CB ∧ T.2.2.1 ≤ SB) (hI : wlJ Len x m o T H) (hL : Len ≤ 3072) (hi : 0 ≤ i ∧ i + 6 ≤ Len) (hb2 : T.2.1 + 20 ≤ CB ∧ T.2.2.1 + 500 ≤ SB)  (next : ∀ T' H', wlJ Len x m o T' H' → T'.2.1 ≤ T.2.1 + 20 → T'.2.2.1 ≤ T.2.2.1 + 500 → WL kt CB SB X 1653 (wlL i x m o) [] T' H') : WL kt CB SB X 882 (wlL i x m o) [] T H := by
  obtain ⟨⟨hW, g0, gx, gm, go, hK, hr⟩, hXI, hY1, hY2⟩ := hI
  refine wl_of hX hb cL_882 (rw_aload_n (pc' := 883) (v := .ref x) rfl rfl rfl ?_)
  refine wl_of hX hb cL_883 (rw_aload_n (pc' := 884) (v := .ref 0) rfl rfl rfl ?_)
  refine wl_of hX hb cL_884 (rw_iload (pc' := 886) (z := i) rfl rfl ?_)
  refine wl_of hX hb cL_886 (rw_iconst (pc' := 887) rfl ?_)
  refine wl_of hX hb cL_887 (rw_iadd (pc' := 888) rfl ?_)
  refine wl_of hX hb cL_888 (xa_I (so := 0) (pc' := 889) (a := 0) hW g0 (wsh_s _) (by omega) (wty_s _ _) (by omega) (by omega) rfl (fun b3601 b3602 => ?_))
  refine wl_of hX hb cL_889 (rw_aload_n (pc' := 890) (v := .ref 0) rfl rfl rfl ?_)
  refine wl_of hX hb cL_890 (rw_iload (pc' := 892) (z := i) rfl rfl ?_)
  refine wl_of hX hb cL_892 (rw_iconst (pc' := 893) rfl ?_)
  refine wl_of hX hb cL_893 (rw_iadd (pc' := 894) rfl ?_)
  refine wl_of hX hb cL_894 (xa_I (so := 0) (pc' := 895) (a := 0) hW g0 (wsh_s _) (by omega) (wty_s _ _) (by omega) (by omega) rfl (fun b3603 b3604 => ?_))
  obtain ⟨B, tc, tm, cu, dr, C8, e8, d8, n8, g8, ce8, e0, gtc, htc, em, gtm, htm, ecu, gcu, edr, gdr, hcu, hdr, hdec, hded, hsp, hC1, hC2, hcu8, hrb8, hcg8, hmn8, hE, hZ, hn8, hXA, hV8, hSG, ece8, gce8, hcen8, hhdr8, hknn8, -⟩ := hXI
  have hN3 := RB_n3 hrb8
  have hE13 : ∀ h : Nat, h < 24 → 0 ≤ e8 13 h ∧ e8 13 h ≤ 100 := fun k hk => by
    obtain ⟨s, h1, h2, h3⟩ := hcu8.1.2.2.1
    exact ⟨(h3 k hk).1, (h3 k hk).2.1⟩
  have hXW := hXA.1
  have hXN := hXA.2
  have hE0 : e8 0 3 = d8 0 3 ∧ e8 0 0 = d8 0 0 := by
    have h := hE 0 (by decide)
    exact ⟨congrFun h 3, congrFun h 0⟩
  have u3605 := CU_k hcu8
  have h3606 : CY T H cu (d8 0 3) g8 (H cu 17) := ⟨hcg8, rfl⟩
  have h3607 : RY T H m (d8 0 3) g8 (H m 32) := ⟨hmn8, rfl⟩
  obtain ⟨t9, ht9⟩ : ∃ t : Int, t = H x 9 := ⟨_, rfl⟩
  obtain ⟨y9, hy9⟩ : ∃ y : Int, y = H 0 ((i + 2).toNat) := ⟨_, rfl⟩
  obtain ⟨r3608, q3609, g3610⟩ := hW.ref gx (t' := 6) (n := 13) (j := 2) (p := 0) (q := 0) rfl (by decide) rfl
  refine wl_of hX hb cL_895 (xc_V (pc' := 898) (r := x) (as := [vI (H 0 ((i + 1).toNat)), vI (H 0 ((i + 2).toNat))]) (st := []) (lm_11_114) rfl rfl (Nat.le_of_ble_eq_true rfl) hW gx sh_1 (by decide) rfl (by decide) (u_105 (e := e8) (d := d8) (n := n8) hW gx ⟨by omega, by omega⟩ ⟨by omega, by omega⟩ ecu gcu q3609 g3610 ece8 gce8 (by assumption) (by assumption) (by omega) (by omega) (by omega) (by omega) hcu8 hcen8 hhdr8) (fun R3611 T3612 H3613 p3614 => ?_))
  obtain ⟨e3615, w3617, f3618, z3619, e3616, b3620, p3621⟩ := p3614
  subst e3615
  subst e3616
  show WL _ _ _ _ 898 [(4, vI i), (3, .ref o), (2, .ref m), (1, .ref x), (0, .ref 0)] [vI z3619] _ H3613
  refine wl_of hX hb cL_898 (rw_pop (pc' := 899) rfl rfl ?_)
  refine wl_of hX hb cL_899 (rw_aload_n (pc' := 900) (v := .ref m) rfl rfl rfl ?_)
  refine wl_of hX hb cL_900 (rw_aload_n (pc' := 901) (v := .ref 0) rfl rfl rfl ?_)
  refine wl_of hX hb cL_901 (rw_iload (pc' := 903) (z := i) rfl rfl ?_)
  refine wl_of hX hb cL_903 (rw_iconst (pc' := 904) rfl ?_)
  refine wl_of hX hb cL_904 (rw_iadd (pc' := 905) rfl ?_)
  have k3625 : H3613 0 ((i + 1).toNat) = H 0 ((i + 1).toNat) := (f3618 0 ((i + 1).toNat) _ g0 (wmem_s rfl))
  refine wl_of hX hb cL_905 (xa_I (so := 0) (pc' := 906) (a := 0) w3617 g0 (wsh_s _) (by omega) (wty_s _ _) (by omega) (by omega) rfl (fun b3623 b3624 => ?_))
  refine wl_of hX hb cL_906 (rw_aload_n (pc' := 907) (v := .ref 0) rfl rfl rfl ?_)
  refine wl_of hX hb cL_907 (rw_iload (pc' := 909) (z := i) rfl rfl ?_)
  refine wl_of hX hb cL_909 (rw_iconst (pc' := 910) rfl ?_)
  refine wl_of hX hb cL_910 (rw_iadd (pc' := 911) rfl ?_)
  have k3628 : H3613 0 ((i + 2).toNat) = H 0 ((i + 2).toNat) := (f3618 0 ((i + 2).toNat) _ g0 (wmem_s rfl))
  refine wl_of hX hb cL_911 (xa_I (so := 0) (pc' := 912) (a := 0) w3617 g0 (wsh_s _) (by omega) (wty_s _ _) (by omega) (by omega) rfl (fun b3626 b3627 => ?_))
  have k3629 : wKI H3613 m = wKI H m := (wKI_fr hW gm f3618 rfl)
  have k3630 : H3613 x 9 = H x 9 := (f3618 x 9 _ gx rfl)
  have k3631 : H3613 m 6 = H m 6 := (f3618 m 6 _ gm rfl)
  have k3632 : H3613 x 11 = H x 11 := (f3618 x 11 _ gx rfl)
  have k3633 : H3613 m 13 = H m 13 := (f3618 m 13 _ gm rfl)
  have k3634 : H3613 x 8 = H x 8 := (f3618 x 8 _ gx rfl)
  have k3635 : H3613 m 3 = H m 3 := (f3618 m 3 _ gm rfl)
  rw [show H3613 0 ((i + 2).toNat) = H 0 ((i + 2).toNat) by omega]
  rw [show H3613 0 ((i + 1).toNat) = H 0 ((i + 1).toNat) by omega]
  have h3636 : RB T H3613 m e8 d8 := (RB_fr hW gm f3618 rfl hrb8)
  have h3637 : KNN T H3613 m e8 d8 := (KNN_fr hW gm f3618 rfl hknn8)
  refine wl_of hX hb cL_912 (xc_V (pc' := 915) (r := m) (as := [vI (H 0 ((i + 1).toNat)), vI (H 0 ((i + 2).toNat))]) (st := []) (lm_11_117) rfl rfl (Nat.le_of_ble_eq_true rfl) w3617 gm sh_42 (by decide) rfl (by decide) (u_255 (e := e8) (d := d8) w3617 gm ⟨by omega, by omega⟩ ⟨by omega, by omega⟩ (by omega) (by assumption) (by assumption) (by assumption) (by assumption) h3636 h3637) (fun R3638 T3639 H3640 p3641 => ?_))
  obtain ⟨e3642, w3644, f3645, z3646, e3643, b3647, p3648⟩ := p3641
  subst e3642
  subst e3643
  obtain ⟨a3649, a3650⟩ := p3648
  show WL _ _ _ _ 915 [(4, vI i), (3, .ref o), (2, .ref m), (1, .ref x), (0, .ref 0)] [vI z3646] _ H3640
  refine wl_of hX hb cL_915 (rw_pop (pc' := 916) rfl rfl ?_)
  refine wl_of hX hb cL_916 (rw_goto (p1 := 1653) (by decide) ?_)
  have k3651 : H3640 x 9 = H3613 x 9 := (f3645 x 9 _ gx rfl)
  have k3652 : H3640 m 6 = H3613 m 6 := (f3645 m 6 _ gm rfl)
  have k3653 : H3640 x 11 = H3613 x 11 := (f3645 x 11 _ gx rfl)
  have k3654 : H3640 m 13 = H3613 m 13 := (f3645 m 13 _ gm rfl)
  have k3655 : H3640 x 8 = H3613 x 8 := (f3645 x 8 _ gx rfl)
  have k3656 : H3640 m 3 = H3613 m 3 := (f3645 m 3 _ gm rfl)
  have k3657 : H3640 x 0 = H x 0 := ((f3645 x 0 _ gx rfl).trans (f3618 x 0 _ gx rfl))
  have q3658 : H3640 x 0 = (tc : Int) := k3657.trans e0
  have k3659 : H3640 m 5 = H m 5 := ((f3645 m 5 _ gm rfl).trans (f3618 m 5 _ gm rfl))
  have q3660 : H3640 m 5 = (tm : Int) := k3659.trans em
  have k3661 : H3640 x 6 = H x 6 := ((f3645 x 6 _ gx rfl).trans (f3618 x 6 _ gx rfl))
  have q3662 : H3640 x 6 = (cu : Int) := k3661.trans ecu
  have k3663 : H3640 x 7 = H x 7 := ((f3645 x 7 _ gx rfl).trans (f3618 x 7 _ gx rfl))
  have q3664 : H3640 x 7 = (dr : Int) := k3663.trans edr
  have h3665 : CEN T H3640 ce8 e8 d8 := (CEN_fr w3617 gce8 f3645 rfl p3621)
  have h3666 : TP T H3640 tc B := (TP_fr w3617 gtc f3645 rfl (TP_fr hW gtc f3618 rfl htc))
  have h3667 : TM T H3640 tm B := (TM_fr w3617 gtm f3645 rfl (TM_fr hW gtm f3618 rfl htm))
  have h3668 : DD T H3640 cu  := (DD_fr w3617 gcu f3645 rfl (DD_fr hW gcu f3618 rfl hcu))
  have h3669 : DD T H3640 dr  := (DD_fr w3617 gdr f3645 rfl (DD_fr hW gdr f3618 rfl hdr))
  have h3670 : DE T H3640 cu  := (DE_fr w3617 gcu f3645 rfl (DE_fr hW gcu f3618 rfl hdec))
  have h3671 : DE T H3640 dr  := (DE_fr w3617 gdr f3645 rfl (DE_fr hW gdr f3618 rfl hded))
  have h3672 : SP T H3640 x C8 := (SP_fr w3617 gx f3645 rfl (SP_fr hW gx f3618 rfl hsp))
  have h3673 : CU T H3640 cu e8 d8 n8 := (CU_fr w3617 gcu f3645 rfl (CU_fr hW gcu f3618 rfl hcu8))
  have h3674 : CY T H3640 cu (d8 0 3) g8 (H cu 17) := (CY_fr w3617 gcu f3645 rfl (CY_fr hW gcu f3618 rfl h3606))
  have k3675 : H3640 x 3 = H x 3 := ((f3645 x 3 _ gx rfl).trans (f3618 x 3 _ gx rfl))
  have q3676 : H3640 x 3 = (ce8 : Int) := k3675.trans ece8
  have h3677 : HDR T H3640 ce8  := (HDR_fr w3617 gce8 f3645 rfl (HDR_fr hW gce8 f3618 rfl hhdr8))
  have h3678 : RY T H3640 m (d8 0 3) g8 (H m 32) := (RY_fr w3617 gm f3645 rfl (RY_fr hW gm f3618 rfl h3607))
  have h3679 : RB T H3640 m e8 d8 := (RB_fr w3617 gm f3645 rfl h3636)
  exact WL.loc hX (by simp) (next T H3640 ⟨⟨w3644, g0, gx, gm, go, by omega, by omega⟩, ⟨_, tc, tm, cu, dr, _, _, _, _, _, ce8, q3658, gtc, h3666, q3660, gtm, h3667, q3662, gcu, q3664, gdr, h3668, h3669, h3670, h3671, h3672, hC1, hC2, h3673, h3679, (h3674).1, (h3678).1, hE, hZ, (by omega), (by assumption), (by omega), (by first | assumption | exact SG_0), q3676, gce8, h3665, h3677, a3650, gm⟩, by omega, by omega⟩ (by omega) (by omega))
set_option maxHeartbeats 4000000 in
theorem wl_c23 {kt : Nat → Option mc_E} {CB SB : Nat} {X : mc_S → Prop} {T : wq_T} {H : wq_H} {Len x m o : Nat} {i : Int} (hX : wlX kt CB SB X) (hb : T.2.1 ≤ CB ∧ T.2.2.1 ≤ SB) (hI : wlJ Len x m o T H) (hL : Len ≤ 3072) (hi : 0 ≤ i ∧ i + 6 ≤ Len) (hb2 : T.2.1 + 20 ≤ CB ∧ T.2.2.1 + 500 ≤ SB)  (next : ∀ T' H', wlJ Len x m o T' H' → T'.2.1 ≤ T.2.1 + 20 → T'.2.2.1 ≤ T.2.2.1 + 500 → WL kt CB SB X 1653 (wlL i x m o) [] T' H') : WL kt CB SB X 919 (wlL i x m o) [] T H := by
  obtain ⟨⟨hW, g0, gx, gm, go, hK, hr⟩, hXI, hY1, hY2⟩ := hI
  refine wl_of hX hb cL_919 (rw_aload_n (pc' := 920) (v := .ref x) rfl rfl rfl ?_)
  refine wl_of hX hb cL_920 (rw_aload_n (pc' := 921) (v := .ref 0) rfl rfl rfl ?_)
  refine wl_of hX hb cL_921 (rw_iload (pc' := 923) (z := i) rfl rfl ?_)
  refine wl_of hX hb cL_923 (rw_iconst (pc' := 924) rfl ?_)
  refine wl_of hX hb cL_924 (rw_iadd (pc' := 925) rfl ?_)
  refine wl_of hX hb cL_925 (xa_I (so := 0) (pc' := 926) (a := 0) hW g0 (wsh_s _) (by omega) (wty_s _ _) (by omega) (by omega) rfl (fun b3680 b3681 => ?_))
  obtain ⟨B, tc, tm, cu, dr, C8, e8, d8, n8, g8, ce8, e0, gtc, htc, em, gtm, htm, ecu, gcu, edr, gdr, hcu, hdr, hdec, hded, hsp, hC1, hC2, hcu8, hrb8, hcg8, hmn8, hE, hZ, hn8, hXA, hV8, hSG, ece8, gce8, hcen8, hhdr8, hknn8, -⟩ := hXI
  have hN3 := RB_n3 hrb8
  have hE13 : ∀ h : Nat, h < 24 → 0 ≤ e8 13 h ∧ e8 13 h ≤ 100 := fun k hk => by
    obtain ⟨s, h1, h2, h3⟩ := hcu8.1.2.2.1
    exact ⟨(h3 k hk).1, (h3 k hk).2.1⟩
  have hXW := hXA.1
  have hXN := hXA.2
  have hE0 : e8 0 3 = d8 0 3 ∧ e8 0 0 = d8 0 0 := by
    have h := hE 0 (by decide)
    exact ⟨congrFun h 3, congrFun h 0⟩
  have u3682 := CU_k hcu8
  have h3683 : CY T H cu (d8 0 3) g8 (H cu 17) := ⟨hcg8, rfl⟩
  have h3684 : RY T H m (d8 0 3) g8 (H m 32) := ⟨hmn8, rfl⟩
  obtain ⟨t9, ht9⟩ : ∃ t : Int, t = H x 9 := ⟨_, rfl⟩
  obtain ⟨y9, hy9⟩ : ∃ y : Int, y = H 0 ((i + 1).toNat) := ⟨_, rfl⟩
  obtain ⟨r3685, q3686, g3687⟩ := hW.ref gx (t' := 6) (n := 13) (j := 2) (p := 0) (q := 0) rfl (by decide) rfl
  refine wl_of hX hb cL_926 (xc_V (pc' := 929) (r := x) (as := [vI (H 0 ((i + 1).toNat))]) (st := []) (lm_11_118) rfl rfl (Nat.le_of_ble_eq_true rfl) hW gx sh_1 (by decide) rfl (by decide) (u_107 (e := e8) (d := d8) (n := n8) hW gx ⟨by omega, by omega⟩ ecu gcu q3686 g3687 ece8 gce8 (by assumption) (by assumption) (by omega) (by omega) (by omega) (by omega) hcu8 hcen8 hhdr8) (fun R3688 T3689 H3690 p3691 => ?_))
  obtain ⟨e3692, w3694, f3695, z3696, e3693, b3697, p3698⟩ := p3691
  subst e3692
  subst e3693
  show WL _ _ _ _ 929 [(4, vI i), (3, .ref o), (2, .ref m), (1, .ref x), (0, .ref 0)] [vI z3696] _ H3690
  refine wl_of hX hb cL_929 (rw_pop (pc' := 930) rfl rfl ?_)
  refine wl_of hX hb cL_930 (rw_aload_n (pc' := 931) (v := .ref m) rfl rfl rfl ?_)
  refine wl_of hX hb cL_931 (rw_aload_n (pc' := 932) (v := .ref 0) rfl rfl rfl ?_)
  refine wl_of hX hb cL_932 (rw_iload (pc' := 934) (z := i) rfl rfl ?_)
  refine wl_of hX hb cL_934 (rw_iconst (pc' := 935) rfl ?_)
  refine wl_of hX hb cL_935 (rw_iadd (pc' := 936) rfl ?_)
  have k3702 : H3690 0 ((i + 1).toNat) = H 0 ((i + 1).toNat) := (f3695 0 ((i + 1).toNat) _ g0 (wmem_s rfl))
  refine wl_of hX hb cL_936 (xa_I (so := 0) (pc' := 937) (a := 0) w3694 g0 (wsh_s _) (by omega) (wty_s _ _) (by omega) (by omega) rfl (fun b3700 b3701 => ?_))
  have k3703 : wKI H3690 m = wKI H m := (wKI_fr hW gm f3695 rfl)
  have k3704 : H3690 x 9 = H x 9 := (f3695 x 9 _ gx rfl)
  have k3705 : H3690 m 6 = H m 6 := (f3695 m 6 _ gm rfl)
  have k3706 : H3690 x 11 = H x 11 := (f3695 x 11 _ gx rfl)
  have k3707 : H3690 m 13 = H m 13 := (f3695 m 13 _ gm rfl)
  have k3708 : H3690 x 8 = H x 8 := (f3695 x 8 _ gx rfl)
  have k3709 : H3690 m 3 = H m 3 := (f3695 m 3 _ gm rfl)
  rw [show H3690 0 ((i + 1).toNat) = H 0 ((i + 1).toNat) by omega]
  have h3710 : RB T H3690 m e8 d8 := (RB_fr hW gm f3695 rfl hrb8)
  have h3711 : KNN T H3690 m e8 d8 := (KNN_fr hW gm f3695 rfl hknn8)
  refine wl_of hX hb cL_937 (xc_V (pc' := 940) (r := m) (as := [vI (H 0 ((i + 1).toNat))]) (st := []) (lm_11_121) rfl rfl (Nat.le_of_ble_eq_true rfl) w3694 gm sh_42 (by decide) rfl (by decide) (u_256 (e := e8) (d := d8) w3694 gm ⟨by omega, by omega⟩ (by omega) (by assumption) (by assumption) (by assumption) (by assumption) h3710 h3711) (fun R3712 T3713 H3714 p3715 => ?_))
  obtain ⟨e3716, w3718, f3719, z3720, e3717, b3721, p3722⟩ := p3715
  subst e3716
  subst e3717
  obtain ⟨a3723, a3724⟩ := p3722
  show WL _ _ _ _ 940 [(4, vI i), (3, .ref o), (2, .ref m), (1, .ref x), (0, .ref 0)] [vI z3720] _ H3714
  refine wl_of hX hb cL_940 (rw_pop (pc' := 941) rfl rfl ?_)
  refine wl_of hX hb cL_941 (rw_goto (p1 := 1653) (by decide) ?_)
  have k3725 : H3714 x 9 = H3690 x 9 := (f3719 x 9 _ gx rfl)
  have k3726 : H3714 m 6 = H3690 m 6 := (f3719 m 6 _ gm rfl)
  have k3727 : H3714 x 11 = H3690 x 11 := (f3719 x 11 _ gx rfl)
  have k3728 : H3714 m 13 = H3690 m 13 := (f3719 m 13 _ gm rfl)
  have k3729 : H3714 x 8 = H3690 x 8 := (f3719 x 8 _ gx rfl)
  have k3730 : H3714 m 3 = H3690 m 3 := (f3719 m 3 _ gm rfl)
  have k3731 : H3714 x 0 = H x 0 := ((f3719 x 0 _ gx rfl).trans (f3695 x 0 _ gx rfl))
  have q3732 : H3714 x 0 = (tc : Int) := k3731.trans e0
  have k3733 : H3714 m 5 = H m 5 := ((f3719 m 5 _ gm rfl).trans (f3695 m 5 _ gm rfl))
  have q3734 : H3714 m 5 = (tm : Int) := k3733.trans em
  have k3735 : H3714 x 6 = H x 6 := ((f3719 x 6 _ gx rfl).trans (f3695 x 6 _ gx rfl))
  have q3736 : H3714 x 6 = (cu : Int) := k3735.trans ecu
  have k3737 : H3714 x 7 = H x 7 := ((f3719 x 7 _ gx rfl).trans (f3695 x 7 _ gx rfl))
  have q3738 : H3714 x 7 = (dr : Int) := k3737.trans edr
  have h3739 : CEN T H3714 ce8 e8 d8 := (CEN_fr w3694 gce8 f3719 rfl p3698)
  have h3740 : TP T H3714 tc B := (TP_fr w3694 gtc f3719 rfl (TP_fr hW gtc f3695 rfl htc))
  have h3741 : TM T H3714 tm B := (TM_fr w3694 gtm f3719 rfl (TM_fr hW gtm f3695 rfl htm))
  have h3742 : DD T H3714 cu  := (DD_fr w3694 gcu f3719 rfl (DD_fr hW gcu f3695 rfl hcu))
  have h3743 : DD T H3714 dr  := (DD_fr w3694 gdr f3719 rfl (DD_fr hW gdr f3695 rfl hdr))
  have h3744 : DE T H3714 cu  := (DE_fr w3694 gcu f3719 rfl (DE_fr hW gcu f3695 rfl hdec))
  have h3745 : DE T H3714 dr  := (DE_fr w3694 gdr f3719 rfl (DE_fr hW gdr f3695 rfl hded))
  have h3746 : SP T H3714 x C8 := (SP_fr w3694 gx f3719 rfl (SP_fr hW gx f3695 rfl hsp))
  have h3747 : CU T H3714 cu e8 d8 n8 := (CU_fr w3694 gcu f3719 rfl (CU_fr hW gcu f3695 rfl hcu8))
  have h3748 : CY T H3714 cu (d8 0 3) g8 (H cu 17) := (CY_fr w3694 gcu f3719 rfl (CY_fr hW gcu f3695 rfl h3683))
  have k3749 : H3714 x 3 = H x 3 := ((f3719 x 3 _ gx rfl).trans (f3695 x 3 _ gx rfl))
  have q3750 : H3714 x 3 = (ce8 : Int) := k3749.trans ece8
  have h3751 : HDR T H3714 ce8  := (HDR_fr w3694 gce8 f3719 rfl (HDR_fr hW gce8 f3695 rfl hhdr8))
  have h3752 : RY T H3714 m (d8 0 3) g8 (H m 32) := (RY_fr w3694 gm f3719 rfl (RY_fr hW gm f3695 rfl h3684))
  have h3753 : RB T H3714 m e8 d8 := (RB_fr w3694 gm f3719 rfl h3710)
  exact WL.loc hX (by simp) (next T H3714 ⟨⟨w3718, g0, gx, gm, go, by omega, by omega⟩, ⟨_, tc, tm, cu, dr, _, _, _, _, _, ce8, q3732, gtc, h3740, q3734, gtm, h3741, q3736, gcu, q3738, gdr, h3742, h3743, h3744, h3745, h3746, hC1, hC2, h3747, h3753, (h3748).1, (h3752).1, hE, hZ, (by omega), (by assumption), (by omega), (by first | assumption | exact SG_0), q3750, gce8, h3739, h3751, a3724, gm⟩, by omega, by omega⟩ (by omega) (by omega))
set_option maxHeartbeats 4000000 in
theorem wl_c24 {kt : Nat → Option mc_E} {CB SB : Nat} {X : mc_S → Prop} {T : wq_T} {H : wq_H} {Len x m o : Nat} {i : Int} (hX : wlX kt CB SB X) (hb : T.2.1 ≤ CB ∧ T.2.2.1 ≤ SB) (hI : wlJ Len x m o T H) (hL : Len ≤ 3072) (hi : 0 ≤ i ∧ i + 6 ≤ Len) (hb2 : T.2.1 + 20 ≤ CB ∧ T.2.2.1 + 500 ≤ SB)  (next : ∀ T' H', wlJ Len x m o T' H' → T'.2.1 ≤ T.2.1 + 20 → T'.2.2.1 ≤ T.2.2.1 + 500 → WL kt CB SB X 1653 (wlL i x m o) [] T' H') : WL kt CB SB X 944 (wlL i x m o) [] T H := by
  obtain ⟨⟨hW, g0, gx, gm, go, hK, hr⟩, hXI, hY1, hY2⟩ := hI
  refine wl_of hX hb cL_944 (rw_aload_n (pc' := 945) (v := .ref x) rfl rfl rfl ?_)
  obtain ⟨B, tc, tm, cu, dr, C8, e8, d8, n8, g8, ce8, e0, gtc, htc, em, gtm, htm, ecu, gcu, edr, gdr, hcu, hdr, hdec, hded, hsp, hC1, hC2, hcu8, hrb8, hcg8, hmn8, hE, hZ, hn8, hXA, hV8, hSG, ece8, gce8, hcen8, hhdr8, hknn8, -⟩ := hXI
  have hN3 := RB_n3 hrb8
  have hE13 : ∀ h : Nat, h < 24 → 0 ≤ e8 13 h ∧ e8 13 h ≤ 100 := fun k hk => by
    obtain ⟨s, h1, h2, h3⟩ := hcu8.1.2.2.1
    exact ⟨(h3 k hk).1, (h3 k hk).2.1⟩
  have hXW := hXA.1
  have hXN := hXA.2
  have hE0 : e8 0 3 = d8 0 3 ∧ e8 0 0 = d8 0 0 := by
    have h := hE 0 (by decide)
    exact ⟨congrFun h 3, congrFun h 0⟩
  have u3754 := CU_k hcu8
  have h3755 : CY T H cu (d8 0 3) g8 (H cu 17) := ⟨hcg8, rfl⟩
  have h3756 : RY T H m (d8 0 3) g8 (H m 32) := ⟨hmn8, rfl⟩
  obtain ⟨t9, ht9⟩ : ∃ t : Int, t = H x 9 := ⟨_, rfl⟩
  obtain ⟨r3757, q3758, g3759⟩ := hW.ref gx (t' := 6) (n := 13) (j := 2) (p := 0) (q := 0) rfl (by decide) rfl
  refine wl_of hX hb cL_945 (xc_V (pc' := 948) (r := x) (as := []) (st := []) (lm_11_122) rfl rfl (Nat.le_of_ble_eq_true rfl) hW gx sh_1 (by decide) rfl (by decide) (u_108 (e := e8) (d := d8) (n := n8) hW gx ecu gcu q3758 g3759 ece8 gce8 (by assumption) (by assumption) (by omega) (by omega) (by omega) (by omega) hcu8 hcen8 hhdr8) (fun R3760 T3761 H3762 p3763 => ?_))
  obtain ⟨e3764, w3766, f3767, z3768, e3765, b3769, p3770⟩ := p3763
  subst e3764
  subst e3765
  show WL _ _ _ _ 948 [(4, vI i), (3, .ref o), (2, .ref m), (1, .ref x), (0, .ref 0)] [vL z3768] _ H3762
  refine wl_of hX hb cL_948 (rw_pop2 (pc' := 949) rfl rfl ?_)
  refine wl_of hX hb cL_949 (rw_aload_n (pc' := 950) (v := .ref m) rfl rfl rfl ?_)
  have k3772 : wKI H3762 m = wKI H m := (wKI_fr hW gm f3767 rfl)
  have k3773 : H3762 x 9 = H x 9 := (f3767 x 9 _ gx rfl)
  have k3774 : H3762 m 6 = H m 6 := (f3767 m 6 _ gm rfl)
  have k3775 : H3762 x 11 = H x 11 := (f3767 x 11 _ gx rfl)
  have k3776 : H3762 m 13 = H m 13 := (f3767 m 13 _ gm rfl)
  have k3777 : H3762 x 8 = H x 8 := (f3767 x 8 _ gx rfl)
  have k3778 : H3762 m 3 = H m 3 := (f3767 m 3 _ gm rfl)
  have h3779 : RB T H3762 m e8 d8 := (RB_fr hW gm f3767 rfl hrb8)
  have h3780 : KNN T H3762 m e8 d8 := (KNN_fr hW gm f3767 rfl hknn8)
  refine wl_of hX hb cL_950 (xc_V (pc' := 953) (r := m) (as := []) (st := []) (lm_11_125) rfl rfl (Nat.le_of_ble_eq_true rfl) w3766 gm sh_42 (by decide) rfl (by decide) (u_258 (e := e8) (d := d8) w3766 gm (by omega) (by assumption) (by assumption) (by assumption) (by assumption) h3779 h3780) (fun R3781 T3782 H3783 p3784 => ?_))
  obtain ⟨e3785, w3787, f3788, z3789, e3786, b3790, p3791⟩ := p3784
  subst e3785
  subst e3786
  obtain ⟨a3792, a3793⟩ := p3791
  show WL _ _ _ _ 953 [(4, vI i), (3, .ref o), (2, .ref m), (1, .ref x), (0, .ref 0)] [vL z3789] _ H3783
  refine wl_of hX hb cL_953 (rw_pop2 (pc' := 954) rfl rfl ?_)
  refine wl_of hX hb cL_954 (rw_goto (p1 := 1653) (by decide) ?_)
  have k3794 : H3783 x 9 = H3762 x 9 := (f3788 x 9 _ gx rfl)
  have k3795 : H3783 m 6 = H3762 m 6 := (f3788 m 6 _ gm rfl)
  have k3796 : H3783 x 11 = H3762 x 11 := (f3788 x 11 _ gx rfl)
  have k3797 : H3783 m 13 = H3762 m 13 := (f3788 m 13 _ gm rfl)
  have k3798 : H3783 x 8 = H3762 x 8 := (f3788 x 8 _ gx rfl)
  have k3799 : H3783 m 3 = H3762 m 3 := (f3788 m 3 _ gm rfl)
  have k3800 : H3783 x 0 = H x 0 := ((f3788 x 0 _ gx rfl).trans (f3767 x 0 _ gx rfl))
  have q3801 : H3783 x 0 = (tc : Int) := k3800.trans e0
  have k3802 : H3783 m 5 = H m 5 := ((f3788 m 5 _ gm rfl).trans (f3767 m 5 _ gm rfl))
  have q3803 : H3783 m 5 = (tm : Int) := k3802.trans em
  have k3804 : H3783 x 6 = H x 6 := ((f3788 x 6 _ gx rfl).trans (f3767 x 6 _ gx rfl))
  have q3805 : H3783 x 6 = (cu : Int) := k3804.trans ecu
  have k3806 : H3783 x 7 = H x 7 := ((f3788 x 7 _ gx rfl).trans (f3767 x 7 _ gx rfl))
  have q3807 : H3783 x 7 = (dr : Int) := k3806.trans edr
  have h3808 : CEN T H3783 ce8 e8 d8 := (CEN_fr w3766 gce8 f3788 rfl p3770)
  have h3809 : TP T H3783 tc B := (TP_fr w3766 gtc f3788 rfl (TP_fr hW gtc f3767 rfl htc))
  have h3810 : TM T H3783 tm B := (TM_fr w3766 gtm f3788 rfl (TM_fr hW gtm f3767 rfl htm))
  have h3811 : DD T H3783 cu  := (DD_fr w3766 gcu f3788 rfl (DD_fr hW gcu f3767 rfl hcu))
  have h3812 : DD T H3783 dr  := (DD_fr w3766 gdr f3788 rfl (DD_fr hW gdr f3767 rfl hdr))
  have h3813 : DE T H3783 cu  := (DE_fr w3766 gcu f3788 rfl (DE_fr hW gcu f3767 rfl hdec))
  have h3814 : DE T H3783 dr  := (DE_fr w3766 gdr f3788 rfl (DE_fr hW gdr f3767 rfl hded))
  have h3815 : SP T H3783 x C8 := (SP_fr w3766 gx f3788 rfl (SP_fr hW gx f3767 rfl hsp))
  have h3816 : CU T H3783 cu e8 d8 n8 := (CU_fr w3766 gcu f3788 rfl (CU_fr hW gcu f3767 rfl hcu8))
  have h3817 : CY T H3783 cu (d8 0 3) g8 (H cu 17) := (CY_fr w3766 gcu f3788 rfl (CY_fr hW gcu f3767 rfl h3755))
  have k3818 : H3783 x 3 = H x 3 := ((f3788 x 3 _ gx rfl).trans (f3767 x 3 _ gx rfl))
  have q3819 : H3783 x 3 = (ce8 : Int) := k3818.trans ece8
  have h3820 : HDR T H3783 ce8  := (HDR_fr w3766 gce8 f3788 rfl (HDR_fr hW gce8 f3767 rfl hhdr8))
  have h3821 : RY T H3783 m (d8 0 3) g8 (H m 32) := (RY_fr w3766 gm f3788 rfl (RY_fr hW gm f3767 rfl h3756))
  have h3822 : RB T H3783 m e8 d8 := (RB_fr w3766 gm f3788 rfl h3779)
  exact WL.loc hX (by simp) (next T H3783 ⟨⟨w3787, g0, gx, gm, go, by omega, by omega⟩, ⟨_, tc, tm, cu, dr, _, _, _, _, _, ce8, q3801, gtc, h3809, q3803, gtm, h3810, q3805, gcu, q3807, gdr, h3811, h3812, h3813, h3814, h3815, hC1, hC2, h3816, h3822, (h3817).1, (h3821).1, hE, hZ, (by omega), (by assumption), (by omega), (by first | assumption | exact SG_0), q3819, gce8, h3808, h3820, a3793, gm⟩, by omega, by omega⟩ (by omega) (by omega))
set_option maxHeartbeats 4000000 in
theorem wl_c25 {kt : Nat → Option mc_E} {CB SB : Nat} {X : mc_S → Prop} {T : wq_T} {H : wq_H} {Len x m o : Nat} {i : Int} (hX : wlX kt CB SB X) (hb : T.2.1 ≤ CB ∧ T.2.2.1 ≤ SB) (hI : wlJ Len x m o T H) (hL : Len ≤ 3072) (hi : 0 ≤ i ∧ i + 6 ≤ Len) (hb2 : T.2.1 + 20 ≤ CB ∧ T.2.2.1 + 500 ≤ SB)  (next : ∀ T' H', wlJ Len x m o T' H' → T'.2.1 ≤ T.2.1 + 20 → T'.2.2.1 ≤ T.2.2.1 + 500 → WL kt CB SB X 1653 (wlL i x m o) [] T' H') : WL kt CB SB X 957 (wlL i x m o) [] T H := by
  obtain ⟨⟨hW, g0, gx, gm, go, hK, hr⟩, hXI, hY1, hY2⟩ := hI
  refine wl_of hX hb cL_957 (rw_aload_n (pc' := 958) (v := .ref x) rfl rfl rfl ?_)
  refine wl_of hX hb cL_958 (rw_aload_n (pc' := 959) (v := .ref 0) rfl rfl rfl ?_)
  refine wl_of hX hb cL_959 (rw_iload (pc' := 961) (z := i) rfl rfl ?_)
  refine wl_of hX hb cL_961 (rw_iconst (pc' := 962) rfl ?_)
  refine wl_of hX hb cL_962 (rw_iadd (pc' := 963) rfl ?_)
  refine wl_of hX hb cL_963 (xa_I (so := 0) (pc' := 964) (a := 0) hW g0 (wsh_s _) (by omega) (wty_s _ _) (by omega) (by omega) rfl (fun b3823 b3824 => ?_))
  refine wl_of hX hb cL_964 (rw_aload_n (pc' := 965) (v := .ref 0) rfl rfl rfl ?_)
  refine wl_of hX hb cL_965 (rw_iload (pc' := 967) (z := i) rfl rfl ?_)
  refine wl_of hX hb cL_967 (rw_iconst (pc' := 968) rfl ?_)
  refine wl_of hX hb cL_968 (rw_iadd (pc' := 969) rfl ?_)
  refine wl_of hX hb cL_969 (xa_I (so := 0) (pc' := 970) (a := 0) hW g0 (wsh_s _) (by omega) (wty_s _ _) (by omega) (by omega) rfl (fun b3825 b3826 => ?_))
  obtain ⟨B, tc, tm, cu, dr, C8, e8, d8, n8, g8, ce8, e0, gtc, htc, em, gtm, htm, ecu, gcu, edr, gdr, hcu, hdr, hdec, hded, hsp, hC1, hC2, hcu8, hrb8, hcg8, hmn8, hE, hZ, hn8, hXA, hV8, hSG, ece8, gce8, hcen8, hhdr8, hknn8, -⟩ := hXI
  have hN3 := RB_n3 hrb8
  have hE13 : ∀ h : Nat, h < 24 → 0 ≤ e8 13 h ∧ e8 13 h ≤ 100 := fun k hk => by
    obtain ⟨s, h1, h2, h3⟩ := hcu8.1.2.2.1
    exact ⟨(h3 k hk).1, (h3 k hk).2.1⟩
  have hXW := hXA.1
  have hXN := hXA.2
  have hE0 : e8 0 3 = d8 0 3 ∧ e8 0 0 = d8 0 0 := by
    have h := hE 0 (by decide)
    exact ⟨congrFun h 3, congrFun h 0⟩
  have u3827 := CU_k hcu8
  have h3828 : CY T H cu (d8 0 3) g8 (H cu 17) := ⟨hcg8, rfl⟩
  have h3829 : RY T H m (d8 0 3) g8 (H m 32) := ⟨hmn8, rfl⟩
  obtain ⟨t9, ht9⟩ : ∃ t : Int, t = H x 9 := ⟨_, rfl⟩
  obtain ⟨y9, hy9⟩ : ∃ y : Int, y = H 0 ((i + 2).toNat) := ⟨_, rfl⟩
  obtain ⟨r3830, q3831, g3832⟩ := hW.ref gx (t' := 6) (n := 13) (j := 2) (p := 0) (q := 0) rfl (by decide) rfl
  refine wl_of hX hb cL_970 (xc_V (pc' := 973) (r := x) (as := [vI (H 0 ((i + 1).toNat)), vI (H 0 ((i + 2).toNat))]) (st := []) (lm_11_126) rfl rfl (Nat.le_of_ble_eq_true rfl) hW gx sh_1 (by decide) rfl (by decide) (u_109 (e := e8) (d := d8) (n := n8) hW gx ⟨by omega, by omega⟩ ⟨by omega, by omega⟩ ecu gcu q3831 g3832 ece8 gce8 (by assumption) (by assumption) (by omega) (by omega) (by omega) (by omega) hcu8 hcen8 hhdr8) (fun R3833 T3834 H3835 p3836 => ?_))
  obtain ⟨e3837, w3839, f3840, z3841, e3838, b3842, p3843⟩ := p3836
  subst e3837
  subst e3838
  show WL _ _ _ _ 973 [(4, vI i), (3, .ref o), (2, .ref m), (1, .ref x), (0, .ref 0)] [vI z3841] _ H3835
  refine wl_of hX hb cL_973 (rw_pop (pc' := 974) rfl rfl ?_)
  refine wl_of hX hb cL_974 (rw_aload_n (pc' := 975) (v := .ref m) rfl rfl rfl ?_)
  refine wl_of hX hb cL_975 (rw_aload_n (pc' := 976) (v := .ref 0) rfl rfl rfl ?_)
  refine wl_of hX hb cL_976 (rw_iload (pc' := 978) (z := i) rfl rfl ?_)
  refine wl_of hX hb cL_978 (rw_iconst (pc' := 979) rfl ?_)
  refine wl_of hX hb cL_979 (rw_iadd (pc' := 980) rfl ?_)
  have k3847 : H3835 0 ((i + 1).toNat) = H 0 ((i + 1).toNat) := (f3840 0 ((i + 1).toNat) _ g0 (wmem_s rfl))
  refine wl_of hX hb cL_980 (xa_I (so := 0) (pc' := 981) (a := 0) w3839 g0 (wsh_s _) (by omega) (wty_s _ _) (by omega) (by omega) rfl (fun b3845 b3846 => ?_))
  refine wl_of hX hb cL_981 (rw_aload_n (pc' := 982) (v := .ref 0) rfl rfl rfl ?_)
  refine wl_of hX hb cL_982 (rw_iload (pc' := 984) (z := i) rfl rfl ?_)
  refine wl_of hX hb cL_984 (rw_iconst (pc' := 985) rfl ?_)
  refine wl_of hX hb cL_985 (rw_iadd (pc' := 986) rfl ?_)
  have k3850 : H3835 0 ((i + 2).toNat) = H 0 ((i + 2).toNat) := (f3840 0 ((i + 2).toNat) _ g0 (wmem_s rfl))
  refine wl_of hX hb cL_986 (xa_I (so := 0) (pc' := 987) (a := 0) w3839 g0 (wsh_s _) (by omega) (wty_s _ _) (by omega) (by omega) rfl (fun b3848 b3849 => ?_))
  have k3851 : wKI H3835 m = wKI H m := (wKI_fr hW gm f3840 rfl)
  have k3852 : H3835 x 9 = H x 9 := (f3840 x 9 _ gx rfl)
  have k3853 : H3835 m 6 = H m 6 := (f3840 m 6 _ gm rfl)
  have k3854 : H3835 x 11 = H x 11 := (f3840 x 11 _ gx rfl)
  have k3855 : H3835 m 13 = H m 13 := (f3840 m 13 _ gm rfl)
  have k3856 : H3835 x 8 = H x 8 := (f3840 x 8 _ gx rfl)
  have k3857 : H3835 m 3 = H m 3 := (f3840 m 3 _ gm rfl)
  rw [show H3835 0 ((i + 2).toNat) = H 0 ((i + 2).toNat) by omega]
  rw [show H3835 0 ((i + 1).toNat) = H 0 ((i + 1).toNat) by omega]
  have h3858 : RB T H3835 m e8 d8 := (RB_fr hW gm f3840 rfl hrb8)
  have h3859 : KNN T H3835 m e8 d8 := (KNN_fr hW gm f3840 rfl hknn8)
  refine wl_of hX hb cL_987 (xc_V (pc' := 990) (r := m) (as := [vI (H 0 ((i + 1).toNat)), vI (H 0 ((i + 2).toNat))]) (st := []) (lm_11_129) rfl rfl (Nat.le_of_ble_eq_true rfl) w3839 gm sh_42 (by decide) rfl (by decide) (u_259 (e := e8) (d := d8) w3839 gm ⟨by omega, by omega⟩ ⟨by omega, by omega⟩ (by omega) (by assumption) (by assumption) (by assumption) (by assumption) h3858 h3859) (fun R3860 T3861 H3862 p3863 => ?_))
  obtain ⟨e3864, w3866, f3867, z3868, e3865, b3869, p3870⟩ := p3863
  subst e3864
  subst e3865
  obtain ⟨a3871, a3872⟩ := p3870
  show WL _ _ _ _ 990 [(4, vI i), (3, .ref o), (2, .ref m), (1, .ref x), (0, .ref 0)] [vI z3868] _ H3862
  refine wl_of hX hb cL_990 (rw_pop (pc' := 991) rfl rfl ?_)
  refine wl_of hX hb cL_991 (rw_goto (p1 := 1653) (by decide) ?_)
  have k3873 : H3862 x 9 = H3835 x 9 := (f3867 x 9 _ gx rfl)
  have k3874 : H3862 m 6 = H3835 m 6 := (f3867 m 6 _ gm rfl)
  have k3875 : H3862 x 11 = H3835 x 11 := (f3867 x 11 _ gx rfl)
  have k3876 : H3862 m 13 = H3835 m 13 := (f3867 m 13 _ gm rfl)
  have k3877 : H3862 x 8 = H3835 x 8 := (f3867 x 8 _ gx rfl)
  have k3878 : H3862 m 3 = H3835 m 3 := (f3867 m 3 _ gm rfl)
  have k3879 : H3862 x 0 = H x 0 := ((f3867 x 0 _ gx rfl).trans (f3840 x 0 _ gx rfl))
  have q3880 : H3862 x 0 = (tc : Int) := k3879.trans e0
  have k3881 : H3862 m 5 = H m 5 := ((f3867 m 5 _ gm rfl).trans (f3840 m 5 _ gm rfl))
  have q3882 : H3862 m 5 = (tm : Int) := k3881.trans em
  have k3883 : H3862 x 6 = H x 6 := ((f3867 x 6 _ gx rfl).trans (f3840 x 6 _ gx rfl))
  have q3884 : H3862 x 6 = (cu : Int) := k3883.trans ecu
  have k3885 : H3862 x 7 = H x 7 := ((f3867 x 7 _ gx rfl).trans (f3840 x 7 _ gx rfl))
  have q3886 : H3862 x 7 = (dr : Int) := k3885.trans edr
  have h3887 : CEN T H3862 ce8 e8 d8 := (CEN_fr w3839 gce8 f3867 rfl p3843)
  have h3888 : TP T H3862 tc B := (TP_fr w3839 gtc f3867 rfl (TP_fr hW gtc f3840 rfl htc))
  have h3889 : TM T H3862 tm B := (TM_fr w3839 gtm f3867 rfl (TM_fr hW gtm f3840 rfl htm))
  have h3890 : DD T H3862 cu  := (DD_fr w3839 gcu f3867 rfl (DD_fr hW gcu f3840 rfl hcu))
  have h3891 : DD T H3862 dr  := (DD_fr w3839 gdr f3867 rfl (DD_fr hW gdr f3840 rfl hdr))
  have h3892 : DE T H3862 cu  := (DE_fr w3839 gcu f3867 rfl (DE_fr hW gcu f3840 rfl hdec))
  have h3893 : DE T H3862 dr  := (DE_fr w3839 gdr f3867 rfl (DE_fr hW gdr f3840 rfl hded))
  have h3894 : SP T H3862 x C8 := (SP_fr w3839 gx f3867 rfl (SP_fr hW gx f3840 rfl hsp))
  have h3895 : CU T H3862 cu e8 d8 n8 := (CU_fr w3839 gcu f3867 rfl (CU_fr hW gcu f3840 rfl hcu8))
  have h3896 : CY T H3862 cu (d8 0 3) g8 (H cu 17) := (CY_fr w3839 gcu f3867 rfl (CY_fr hW gcu f3840 rfl h3828))
  have k3897 : H3862 x 3 = H x 3 := ((f3867 x 3 _ gx rfl).trans (f3840 x 3 _ gx rfl))
  have q3898 : H3862 x 3 = (ce8 : Int) := k3897.trans ece8
  have h3899 : HDR T H3862 ce8  := (HDR_fr w3839 gce8 f3867 rfl (HDR_fr hW gce8 f3840 rfl hhdr8))
  have h3900 : RY T H3862 m (d8 0 3) g8 (H m 32) := (RY_fr w3839 gm f3867 rfl (RY_fr hW gm f3840 rfl h3829))
  have h3901 : RB T H3862 m e8 d8 := (RB_fr w3839 gm f3867 rfl h3858)
  exact WL.loc hX (by simp) (next T H3862 ⟨⟨w3866, g0, gx, gm, go, by omega, by omega⟩, ⟨_, tc, tm, cu, dr, _, _, _, _, _, ce8, q3880, gtc, h3888, q3882, gtm, h3889, q3884, gcu, q3886, gdr, h3890, h3891, h3892, h3893, h3894, hC1, hC2, h3895, h3901, (h3896).1, (h3900).1, hE, hZ, (by omega), (by assumption), (by omega), (by first | assumption | exact SG_0), q3898, gce8, h3887, h3899, a3872, gm⟩, by omega, by omega⟩ (by omega) (by omega))
set_option maxHeartbeats 4000000 in
theorem wl_c26 {kt : Nat → Option mc_E} {CB SB : Nat} {X : mc_S → Prop} {T : wq_T} {H : wq_H} {Len x m o : Nat} {i : Int} (hX : wlX kt CB SB X) (hb : T.2.1 ≤ CB ∧ T.2.2.1 ≤ SB) (hI : wlJ Len x m o T H) (hL : Len ≤ 3072) (hi : 0 ≤ i ∧ i + 6 ≤ Len) (hb2 : T.2.1 + 20 ≤ CB ∧ T.2.2.1 + 500 ≤ SB)  (next : ∀ T' H', wlJ Len x m o T' H' → T'.2.1 ≤ T.2.1 + 20 → T'.2.2.1 ≤ T.2.2.1 + 500 → WL kt CB SB X 1653 (wlL i x m o) [] T' H') : WL kt CB SB X 994 (wlL i x m o) [] T H := by
  obtain ⟨⟨hW, g0, gx, gm, go, hK, hr⟩, hXI, hY1, hY2⟩ := hI
  refine wl_of hX hb cL_994 (rw_aload_n (pc' := 995) (v := .ref x) rfl rfl rfl ?_)
  refine wl_of hX hb cL_995 (rw_aload_n (pc' := 996) (v := .ref 0) rfl rfl rfl ?_)
  refine wl_of hX hb cL_996 (rw_iload (pc' := 998) (z := i) rfl rfl ?_)
  refine wl_of hX hb cL_998 (rw_iconst (pc' := 999) rfl ?_)
  refine wl_of hX hb cL_999 (rw_iadd (pc' := 1000) rfl ?_)
  refine wl_of hX hb cL_1000 (xa_I (so := 0) (pc' := 1001) (a := 0) hW g0 (wsh_s _) (by omega) (wty_s _ _) (by omega) (by omega) rfl (fun b3902 b3903 => ?_))
  obtain ⟨B, tc, tm, cu, dr, C8, e8, d8, n8, g8, ce8, e0, gtc, htc, em, gtm, htm, ecu, gcu, edr, gdr, hcu, hdr, hdec, hded, hsp, hC1, hC2, hcu8, hrb8, hcg8, hmn8, hE, hZ, hn8, hXA, hV8, hSG, ece8, gce8, hcen8, hhdr8, hknn8, -⟩ := hXI
  have hN3 := RB_n3 hrb8
  have hE13 : ∀ h : Nat, h < 24 → 0 ≤ e8 13 h ∧ e8 13 h ≤ 100 := fun k hk => by
    obtain ⟨s, h1, h2, h3⟩ := hcu8.1.2.2.1
    exact ⟨(h3 k hk).1, (h3 k hk).2.1⟩
  have hXW := hXA.1
  have hXN := hXA.2
  have hE0 : e8 0 3 = d8 0 3 ∧ e8 0 0 = d8 0 0 := by
    have h := hE 0 (by decide)
    exact ⟨congrFun h 3, congrFun h 0⟩
  have u3904 := CU_k hcu8
  have h3905 : CY T H cu (d8 0 3) g8 (H cu 17) := ⟨hcg8, rfl⟩
  have h3906 : RY T H m (d8 0 3) g8 (H m 32) := ⟨hmn8, rfl⟩
  obtain ⟨t9, ht9⟩ : ∃ t : Int, t = H x 9 := ⟨_, rfl⟩
  obtain ⟨y9, hy9⟩ : ∃ y : Int, y = H 0 ((i + 1).toNat) := ⟨_, rfl⟩
  obtain ⟨r3907, q3908, g3909⟩ := hW.ref gx (t' := 6) (n := 13) (j := 2) (p := 0) (q := 0) rfl (by decide) rfl
  refine wl_of hX hb cL_1001 (xc_V (pc' := 1004) (r := x) (as := [vI (H 0 ((i + 1).toNat))]) (st := []) (lm_11_130) rfl rfl (Nat.le_of_ble_eq_true rfl) hW gx sh_1 (by decide) rfl (by decide) (u_112 (e := e8) (d := d8) (n := n8) hW gx ⟨by omega, by omega⟩ ecu gcu q3908 g3909 ece8 gce8 (by assumption) (by assumption) (by omega) (by omega) (by omega) (by omega) hcu8 hcen8 hhdr8) (fun R3910 T3911 H3912 p3913 => ?_))
  obtain ⟨e3914, w3916, f3917, z3918, e3915, b3919, p3920⟩ := p3913
  subst e3914
  subst e3915
  show WL _ _ _ _ 1004 [(4, vI i), (3, .ref o), (2, .ref m), (1, .ref x), (0, .ref 0)] [vL z3918] _ H3912
  refine wl_of hX hb cL_1004 (rw_pop2 (pc' := 1005) rfl rfl ?_)
  refine wl_of hX hb cL_1005 (rw_aload_n (pc' := 1006) (v := .ref m) rfl rfl rfl ?_)
  refine wl_of hX hb cL_1006 (rw_aload_n (pc' := 1007) (v := .ref 0) rfl rfl rfl ?_)
  refine wl_of hX hb cL_1007 (rw_iload (pc' := 1009) (z := i) rfl rfl ?_)
  refine wl_of hX hb cL_1009 (rw_iconst (pc' := 1010) rfl ?_)
  refine wl_of hX hb cL_1010 (rw_iadd (pc' := 1011) rfl ?_)
  have k3924 : H3912 0 ((i + 1).toNat) = H 0 ((i + 1).toNat) := (f3917 0 ((i + 1).toNat) _ g0 (wmem_s rfl))
  refine wl_of hX hb cL_1011 (xa_I (so := 0) (pc' := 1012) (a := 0) w3916 g0 (wsh_s _) (by omega) (wty_s _ _) (by omega) (by omega) rfl (fun b3922 b3923 => ?_))
  have k3925 : wKI H3912 m = wKI H m := (wKI_fr hW gm f3917 rfl)
  have k3926 : H3912 x 9 = H x 9 := (f3917 x 9 _ gx rfl)
  have k3927 : H3912 m 6 = H m 6 := (f3917 m 6 _ gm rfl)
  have k3928 : H3912 x 11 = H x 11 := (f3917 x 11 _ gx rfl)
  have k3929 : H3912 m 13 = H m 13 := (f3917 m 13 _ gm rfl)
  have k3930 : H3912 x 8 = H x 8 := (f3917 x 8 _ gx rfl)
  have k3931 : H3912 m 3 = H m 3 := (f3917 m 3 _ gm rfl)
  rw [show H3912 0 ((i + 1).toNat) = H 0 ((i + 1).toNat) by omega]
  have h3932 : RB T H3912 m e8 d8 := (RB_fr hW gm f3917 rfl hrb8)
  have h3933 : KNN T H3912 m e8 d8 := (KNN_fr hW gm f3917 rfl hknn8)
  refine wl_of hX hb cL_1012 (xc_V (pc' := 1015) (r := m) (as := [vI (H 0 ((i + 1).toNat))]) (st := []) (lm_11_134) rfl rfl (Nat.le_of_ble_eq_true rfl) w3916 gm sh_42 (by decide) rfl (by decide) (u_260 (e := e8) (d := d8) w3916 gm ⟨by omega, by omega⟩ (by omega) (by assumption) (by assumption) (by assumption) (by assumption) h3932 h3933) (fun R3934 T3935 H3936 p3937 => ?_))
  obtain ⟨e3938, w3940, f3941, z3942, e3939, b3943, p3944⟩ := p3937
  subst e3938
  subst e3939
  obtain ⟨a3945, a3946⟩ := p3944
  show WL _ _ _ _ 1015 [(4, vI i), (3, .ref o), (2, .ref m), (1, .ref x), (0, .ref 0)] [vL z3942] _ H3936
  refine wl_of hX hb cL_1015 (rw_pop2 (pc' := 1016) rfl rfl ?_)
  refine wl_of hX hb cL_1016 (rw_goto (p1 := 1653) (by decide) ?_)
  have k3947 : H3936 x 9 = H3912 x 9 := (f3941 x 9 _ gx rfl)
  have k3948 : H3936 m 6 = H3912 m 6 := (f3941 m 6 _ gm rfl)
  have k3949 : H3936 x 11 = H3912 x 11 := (f3941 x 11 _ gx rfl)
  have k3950 : H3936 m 13 = H3912 m 13 := (f3941 m 13 _ gm rfl)
  have k3951 : H3936 x 8 = H3912 x 8 := (f3941 x 8 _ gx rfl)
  have k3952 : H3936 m 3 = H3912 m 3 := (f3941 m 3 _ gm rfl)
  have k3953 : H3936 x 0 = H x 0 := ((f3941 x 0 _ gx rfl).trans (f3917 x 0 _ gx rfl))
  have q3954 : H3936 x 0 = (tc : Int) := k3953.trans e0
  have k3955 : H3936 m 5 = H m 5 := ((f3941 m 5 _ gm rfl).trans (f3917 m 5 _ gm rfl))
  have q3956 : H3936 m 5 = (tm : Int) := k3955.trans em
  have k3957 : H3936 x 6 = H x 6 := ((f3941 x 6 _ gx rfl).trans (f3917 x 6 _ gx rfl))
  have q3958 : H3936 x 6 = (cu : Int) := k3957.trans ecu
  have k3959 : H3936 x 7 = H x 7 := ((f3941 x 7 _ gx rfl).trans (f3917 x 7 _ gx rfl))
  have q3960 : H3936 x 7 = (dr : Int) := k3959.trans edr
  have h3961 : CEN T H3936 ce8 e8 d8 := (CEN_fr w3916 gce8 f3941 rfl p3920)
  have h3962 : TP T H3936 tc B := (TP_fr w3916 gtc f3941 rfl (TP_fr hW gtc f3917 rfl htc))
  have h3963 : TM T H3936 tm B := (TM_fr w3916 gtm f3941 rfl (TM_fr hW gtm f3917 rfl htm))
  have h3964 : DD T H3936 cu  := (DD_fr w3916 gcu f3941 rfl (DD_fr hW gcu f3917 rfl hcu))
  have h3965 : DD T H3936 dr  := (DD_fr w3916 gdr f3941 rfl (DD_fr hW gdr f3917 rfl hdr))
  have h3966 : DE T H3936 cu  := (DE_fr w3916 gcu f3941 rfl (DE_fr hW gcu f3917 rfl hdec))
  have h3967 : DE T H3936 dr  := (DE_fr w3916 gdr f3941 rfl (DE_fr hW gdr f3917 rfl hded))
  have h3968 : SP T H3936 x C8 := (SP_fr w3916 gx f3941 rfl (SP_fr hW gx f3917 rfl hsp))
  have h3969 : CU T H3936 cu e8 d8 n8 := (CU_fr w3916 gcu f3941 rfl (CU_fr hW gcu f3917 rfl hcu8))
  have h3970 : CY T H3936 cu (d8 0 3) g8 (H cu 17) := (CY_fr w3916 gcu f3941 rfl (CY_fr hW gcu f3917 rfl h3905))
  have k3971 : H3936 x 3 = H x 3 := ((f3941 x 3 _ gx rfl).trans (f3917 x 3 _ gx rfl))
  have q3972 : H3936 x 3 = (ce8 : Int) := k3971.trans ece8
  have h3973 : HDR T H3936 ce8  := (HDR_fr w3916 gce8 f3941 rfl (HDR_fr hW gce8 f3917 rfl hhdr8))
  have h3974 : RY T H3936 m (d8 0 3) g8 (H m 32) := (RY_fr w3916 gm f3941 rfl (RY_fr hW gm f3917 rfl h3906))
  have h3975 : RB T H3936 m e8 d8 := (RB_fr w3916 gm f3941 rfl h3932)
  exact WL.loc hX (by simp) (next T H3936 ⟨⟨w3940, g0, gx, gm, go, by omega, by omega⟩, ⟨_, tc, tm, cu, dr, _, _, _, _, _, ce8, q3954, gtc, h3962, q3956, gtm, h3963, q3958, gcu, q3960, gdr, h3964, h3965, h3966, h3967, h3968, hC1, hC2, h3969, h3975, (h3970).1, (h3974).1, hE, hZ, (by omega), (by assumption), (by omega), (by first | assumption | exact SG_0), q3972, gce8, h3961, h3973, a3946, gm⟩, by omega, by omega⟩ (by omega) (by omega))
set_option maxHeartbeats 4000000 in
theorem wl_c27 {kt : Nat → Option mc_E} {CB SB : Nat} {X : mc_S → Prop} {T : wq_T} {H : wq_H} {Len x m o : Nat} {i : Int} (hX : wlX kt CB SB X) (hb : T.2.1 ≤ CB ∧ T.2.2.1 ≤ SB) (hI : wlJ Len x m o T H) (hL : Len ≤ 3072) (hi : 0 ≤ i ∧ i + 6 ≤ Len) (hb2 : T.2.1 + 20 ≤ CB ∧ T.2.2.1 + 500 ≤ SB)  (next : ∀ T' H', wlJ Len x m o T' H' → T'.2.1 ≤ T.2.1 + 20 → T'.2.2.1 ≤ T.2.2.1 + 500 → WL kt CB SB X 1653 (wlL i x m o) [] T' H') : WL kt CB SB X 1019 (wlL i x m o) [] T H := by
  obtain ⟨⟨hW, g0, gx, gm, go, hK, hr⟩, hXI, hY1, hY2⟩ := hI
  refine wl_of hX hb cL_1019 (rw_aload_n (pc' := 1020) (v := .ref x) rfl rfl rfl ?_)
  refine wl_of hX hb cL_1020 (rw_aload_n (pc' := 1021) (v := .ref 0) rfl rfl rfl ?_)
  refine wl_of hX hb cL_1021 (rw_iload (pc' := 1023) (z := i) rfl rfl ?_)
  refine wl_of hX hb cL_1023 (rw_iconst (pc' := 1024) rfl ?_)
  refine wl_of hX hb cL_1024 (rw_iadd (pc' := 1025) rfl ?_)
  refine wl_of hX hb cL_1025 (xa_I (so := 0) (pc' := 1026) (a := 0) hW g0 (wsh_s _) (by omega) (wty_s _ _) (by omega) (by omega) rfl (fun b3976 b3977 => ?_))
  refine wl_of hX hb cL_1026 (rw_aload_n (pc' := 1027) (v := .ref 0) rfl rfl rfl ?_)
  refine wl_of hX hb cL_1027 (rw_iload (pc' := 1029) (z := i) rfl rfl ?_)
  refine wl_of hX hb cL_1029 (rw_iconst (pc' := 1030) rfl ?_)
  refine wl_of hX hb cL_1030 (rw_iadd (pc' := 1031) rfl ?_)
  refine wl_of hX hb cL_1031 (xa_I (so := 0) (pc' := 1032) (a := 0) hW g0 (wsh_s _) (by omega) (wty_s _ _) (by omega) (by omega) rfl (fun b3978 b3979 => ?_))
  obtain ⟨B, tc, tm, cu, dr, C8, e8, d8, n8, g8, ce8, e0, gtc, htc, em, gtm, htm, ecu, gcu, edr, gdr, hcu, hdr, hdec, hded, hsp, hC1, hC2, hcu8, hrb8, hcg8, hmn8, hE, hZ, hn8, hXA, hV8, hSG, ece8, gce8, hcen8, hhdr8, hknn8, -⟩ := hXI
  have hN3 := RB_n3 hrb8
  have hE13 : ∀ h : Nat, h < 24 → 0 ≤ e8 13 h ∧ e8 13 h ≤ 100 := fun k hk => by
    obtain ⟨s, h1, h2, h3⟩ := hcu8.1.2.2.1
    exact ⟨(h3 k hk).1, (h3 k hk).2.1⟩
  have hXW := hXA.1
  have hXN := hXA.2
  have hE0 : e8 0 3 = d8 0 3 ∧ e8 0 0 = d8 0 0 := by
    have h := hE 0 (by decide)
    exact ⟨congrFun h 3, congrFun h 0⟩
  have u3980 := CU_k hcu8
  have h3981 : CY T H cu (d8 0 3) g8 (H cu 17) := ⟨hcg8, rfl⟩
  have h3982 : RY T H m (d8 0 3) g8 (H m 32) := ⟨hmn8, rfl⟩
  obtain ⟨t9, ht9⟩ : ∃ t : Int, t = H x 9 := ⟨_, rfl⟩
  obtain ⟨y9, hy9⟩ : ∃ y : Int, y = H 0 ((i + 2).toNat) := ⟨_, rfl⟩
  obtain ⟨r3983, q3984, g3985⟩ := hW.ref gx (t' := 6) (n := 13) (j := 2) (p := 0) (q := 0) rfl (by decide) rfl
  refine wl_of hX hb cL_1032 (xc_V (pc' := 1035) (r := x) (as := [vI (H 0 ((i + 1).toNat)), vI (H 0 ((i + 2).toNat))]) (st := []) (lm_11_135) rfl rfl (Nat.le_of_ble_eq_true rfl) hW gx sh_1 (by decide) rfl (by decide) (u_114 (e := e8) (d := d8) (n := n8) hW gx ⟨by omega, by omega⟩ ⟨by omega, by omega⟩ ecu gcu q3984 g3985 ece8 gce8 (by assumption) (by assumption) (by omega) (by omega) (by omega) (by omega) hcu8 hcen8 hhdr8) (fun R3986 T3987 H3988 p3989 => ?_))
  obtain ⟨e3990, w3992, f3993, z3994, e3991, b3995, p3996⟩ := p3989
  subst e3990
  subst e3991
  rcases p3996 with ⟨a3997, a3998, a3999⟩ | ⟨a4000, a4001, a4002⟩
  · show WL _ _ _ _ 1035 [(4, vI i), (3, .ref o), (2, .ref m), (1, .ref x), (0, .ref 0)] [vI z3994] _ H3988
    refine wl_of hX hb cL_1035 (rw_aload_n (pc' := 1036) (v := .ref m) rfl rfl rfl ?_)
    refine wl_of hX hb cL_1036 (rw_aload_n (pc' := 1037) (v := .ref 0) rfl rfl rfl ?_)
    refine wl_of hX hb cL_1037 (rw_iload (pc' := 1039) (z := i) rfl rfl ?_)
    refine wl_of hX hb cL_1039 (rw_iconst (pc' := 1040) rfl ?_)
    refine wl_of hX hb cL_1040 (rw_iadd (pc' := 1041) rfl ?_)
    have k4005 : H3988 0 ((i + 1).toNat) = H 0 ((i + 1).toNat) := (f3993 0 ((i + 1).toNat) _ g0 (wmem_s rfl))
    refine wl_of hX hb cL_1041 (xa_I (so := 0) (pc' := 1042) (a := 0) w3992 g0 (wsh_s _) (by omega) (wty_s _ _) (by omega) (by omega) rfl (fun b4003 b4004 => ?_))
    refine wl_of hX hb cL_1042 (rw_aload_n (pc' := 1043) (v := .ref 0) rfl rfl rfl ?_)
    refine wl_of hX hb cL_1043 (rw_iload (pc' := 1045) (z := i) rfl rfl ?_)
    refine wl_of hX hb cL_1045 (rw_iconst (pc' := 1046) rfl ?_)
    refine wl_of hX hb cL_1046 (rw_iadd (pc' := 1047) rfl ?_)
    have k4008 : H3988 0 ((i + 2).toNat) = H 0 ((i + 2).toNat) := (f3993 0 ((i + 2).toNat) _ g0 (wmem_s rfl))
    refine wl_of hX hb cL_1047 (xa_I (so := 0) (pc' := 1048) (a := 0) w3992 g0 (wsh_s _) (by omega) (wty_s _ _) (by omega) (by omega) rfl (fun b4006 b4007 => ?_))
    have k4009 : wKI H3988 m = wKI H m := (wKI_fr hW gm f3993 rfl)
    have k4010 : H3988 x 9 = H x 9 := (f3993 x 9 _ gx rfl)
    have k4011 : H3988 m 6 = H m 6 := (f3993 m 6 _ gm rfl)
    have k4012 : H3988 x 11 = H x 11 := (f3993 x 11 _ gx rfl)
    have k4013 : H3988 m 13 = H m 13 := (f3993 m 13 _ gm rfl)
    have k4014 : H3988 x 8 = H x 8 := (f3993 x 8 _ gx rfl)
    have k4015 : H3988 m 3 = H m 3 := (f3993 m 3 _ gm rfl)
    rw [show H3988 0 ((i + 2).toNat) = H 0 ((i + 2).toNat) by omega]
    rw [show H3988 0 ((i + 1).toNat) = H 0 ((i + 1).toNat) by omega]
    have h4016 : RB T H3988 m e8 d8 := (RB_fr hW gm f3993 rfl hrb8)
    have h4017 : KNN T H3988 m e8 d8 := (KNN_fr hW gm f3993 rfl hknn8)
    refine wl_of hX hb cL_1048 (xc_V (pc' := 1051) (r := m) (as := [vI (H 0 ((i + 1).toNat)), vI (H 0 ((i + 2).toNat))]) (st := [vI z3994]) (lm_11_138) rfl rfl (Nat.le_of_ble_eq_true rfl) w3992 gm sh_42 (by decide) rfl (by decide) (u_261 (e := e8) (d := d8) w3992 gm ⟨by omega, by omega⟩ ⟨by omega, by omega⟩ (by omega) (by assumption) (by assumption) (by assumption) (by assumption) h4016 h4017) (fun R4018 T4019 H4020 p4021 => ?_))
    obtain ⟨e4022, w4024, f4025, z4026, e4023, b4027, p4028⟩ := p4021
    subst e4022
    subst e4023
    rcases p4028 with ⟨a4029, a4030, a4031, a4032⟩ | ⟨a4033, a4034, a4035, a4036⟩
    · show WL _ _ _ _ 1051 [(4, vI i), (3, .ref o), (2, .ref m), (1, .ref x), (0, .ref 0)] [vI z4026, vI z3994] _ H4020
      refine wl_of hX hb cL_1051 (rw_icmp_eq (p1 := 1653) (p2 := 1054) (by decide) rfl ⟨b3995.1, b3995.2⟩ ⟨b4027.1, b4027.2⟩ (fun c4037 => ?_) (fun c4037 => ?_))
      · have k4038 : H4020 x 9 = H3988 x 9 := (f4025 x 9 _ gx rfl)
        have k4039 : H4020 m 6 = H3988 m 6 := (f4025 m 6 _ gm rfl)
        have k4040 : H4020 x 11 = H3988 x 11 := (f4025 x 11 _ gx rfl)
        have k4041 : H4020 m 13 = H3988 m 13 := (f4025 m 13 _ gm rfl)
        have k4042 : H4020 x 8 = H3988 x 8 := (f4025 x 8 _ gx rfl)
        have k4043 : H4020 m 3 = H3988 m 3 := (f4025 m 3 _ gm rfl)
        have k4044 : H4020 x 0 = H x 0 := ((f4025 x 0 _ gx rfl).trans (f3993 x 0 _ gx rfl))
        have q4045 : H4020 x 0 = (tc : Int) := k4044.trans e0
        have k4046 : H4020 m 5 = H m 5 := ((f4025 m 5 _ gm rfl).trans (f3993 m 5 _ gm rfl))
        have q4047 : H4020 m 5 = (tm : Int) := k4046.trans em
        have k4048 : H4020 x 6 = H x 6 := ((f4025 x 6 _ gx rfl).trans (f3993 x 6 _ gx rfl))
        have q4049 : H4020 x 6 = (cu : Int) := k4048.trans ecu
        have k4050 : H4020 x 7 = H x 7 := ((f4025 x 7 _ gx rfl).trans (f3993 x 7 _ gx rfl))
        have q4051 : H4020 x 7 = (dr : Int) := k4050.trans edr
        have h4052 : CEN T H4020 ce8 e8 d8 := (CEN_fr w3992 gce8 f4025 rfl a3999)
        have h4053 : TP T H4020 tc B := (TP_fr w3992 gtc f4025 rfl (TP_fr hW gtc f3993 rfl htc))
        have h4054 : TM T H4020 tm B := (TM_fr w3992 gtm f4025 rfl (TM_fr hW gtm f3993 rfl htm))
        have h4055 : DD T H4020 cu  := (DD_fr w3992 gcu f4025 rfl (DD_fr hW gcu f3993 rfl hcu))
        have h4056 : DD T H4020 dr  := (DD_fr w3992 gdr f4025 rfl (DD_fr hW gdr f3993 rfl hdr))
        have h4057 : DE T H4020 cu  := (DE_fr w3992 gcu f4025 rfl (DE_fr hW gcu f3993 rfl hdec))
        have h4058 : DE T H4020 dr  := (DE_fr w3992 gdr f4025 rfl (DE_fr hW gdr f3993 rfl hded))
        have h4059 : SP T H4020 x C8 := (SP_fr w3992 gx f4025 rfl (SP_fr hW gx f3993 rfl hsp))
        have h4060 : CU T H4020 cu e8 d8 n8 := (CU_fr w3992 gcu f4025 rfl (CU_fr hW gcu f3993 rfl hcu8))
        have h4061 : CY T H4020 cu (d8 0 3) g8 (H cu 17) := (CY_fr w3992 gcu f4025 rfl (CY_fr hW gcu f3993 rfl h3981))
        have k4062 : H4020 x 3 = H x 3 := ((f4025 x 3 _ gx rfl).trans (f3993 x 3 _ gx rfl))
        have q4063 : H4020 x 3 = (ce8 : Int) := k4062.trans ece8
        have h4064 : HDR T H4020 ce8  := (HDR_fr w3992 gce8 f4025 rfl (HDR_fr hW gce8 f3993 rfl hhdr8))
        have h4065 : RY T H4020 m (d8 0 3) g8 (H m 32) := (RY_fr w3992 gm f4025 rfl (RY_fr hW gm f3993 rfl h3982))
        have h4066 : RB T H4020 m e8 d8 := (RB_fr w3992 gm f4025 rfl h4016)
        exact WL.loc hX (by simp) (next T H4020 ⟨⟨w4024, g0, gx, gm, go, by omega, by omega⟩, ⟨_, tc, tm, cu, dr, _, _, _, _, _, ce8, q4045, gtc, h4053, q4047, gtm, h4054, q4049, gcu, q4051, gdr, h4055, h4056, h4057, h4058, h4059, hC1, hC2, h4060, h4066, (h4061).1, (h4065).1, hE, hZ, (by omega), (by assumption), (by omega), (by first | assumption | exact SG_0), q4063, gce8, h4052, h4064, a4032, gm⟩, by omega, by omega⟩ (by omega) (by omega))
      · exfalso
        omega
    · show WL _ _ _ _ 1051 [(4, vI i), (3, .ref o), (2, .ref m), (1, .ref x), (0, .ref 0)] [vI z4026, vI z3994] _ H4020
      refine wl_of hX hb cL_1051 (rw_icmp_eq (p1 := 1653) (p2 := 1054) (by decide) rfl ⟨b3995.1, b3995.2⟩ ⟨b4027.1, b4027.2⟩ (fun c4067 => ?_) (fun c4067 => ?_))
      · have k4068 : H4020 x 9 = H3988 x 9 := (f4025 x 9 _ gx rfl)
        have k4069 : H4020 m 6 = H3988 m 6 := (f4025 m 6 _ gm rfl)
        have k4070 : H4020 x 11 = H3988 x 11 := (f4025 x 11 _ gx rfl)
        have k4071 : H4020 m 13 = H3988 m 13 := (f4025 m 13 _ gm rfl)
        have k4072 : H4020 x 8 = H3988 x 8 := (f4025 x 8 _ gx rfl)
        have k4073 : H4020 m 3 = H3988 m 3 := (f4025 m 3 _ gm rfl)
        have k4074 : H4020 x 0 = H x 0 := ((f4025 x 0 _ gx rfl).trans (f3993 x 0 _ gx rfl))
        have q4075 : H4020 x 0 = (tc : Int) := k4074.trans e0
        have k4076 : H4020 m 5 = H m 5 := ((f4025 m 5 _ gm rfl).trans (f3993 m 5 _ gm rfl))
        have q4077 : H4020 m 5 = (tm : Int) := k4076.trans em
        have k4078 : H4020 x 6 = H x 6 := ((f4025 x 6 _ gx rfl).trans (f3993 x 6 _ gx rfl))
        have q4079 : H4020 x 6 = (cu : Int) := k4078.trans ecu
        have k4080 : H4020 x 7 = H x 7 := ((f4025 x 7 _ gx rfl).trans (f3993 x 7 _ gx rfl))
        have q4081 : H4020 x 7 = (dr : Int) := k4080.trans edr
        have h4082 : CEN T H4020 ce8 e8 d8 := (CEN_fr w3992 gce8 f4025 rfl a3999)
        have h4083 : TP T H4020 tc B := (TP_fr w3992 gtc f4025 rfl (TP_fr hW gtc f3993 rfl htc))
        have h4084 : TM T H4020 tm B := (TM_fr w3992 gtm f4025 rfl (TM_fr hW gtm f3993 rfl htm))
        have h4085 : DD T H4020 cu  := (DD_fr w3992 gcu f4025 rfl (DD_fr hW gcu f3993 rfl hcu))
        have h4086 : DD T H4020 dr  := (DD_fr w3992 gdr f4025 rfl (DD_fr hW gdr f3993 rfl hdr))
        have h4087 : DE T H4020 cu  := (DE_fr w3992 gcu f4025 rfl (DE_fr hW gcu f3993 rfl hdec))
        have h4088 : DE T H4020 dr  := (DE_fr w3992 gdr f4025 rfl (DE_fr hW gdr f3993 rfl hded))
        have h4089 : SP T H4020 x C8 := (SP_fr w3992 gx f4025 rfl (SP_fr hW gx f3993 rfl hsp))
        have h4090 : CU T H4020 cu e8 d8 n8 := (CU_fr w3992 gcu f4025 rfl (CU_fr hW gcu f3993 rfl hcu8))
        have h4091 : CY T H4020 cu (d8 0 3) g8 (H cu 17) := (CY_fr w3992 gcu f4025 rfl (CY_fr hW gcu f3993 rfl h3981))
        have k4092 : H4020 x 3 = H x 3 := ((f4025 x 3 _ gx rfl).trans (f3993 x 3 _ gx rfl))
        have q4093 : H4020 x 3 = (ce8 : Int) := k4092.trans ece8
        have h4094 : HDR T H4020 ce8  := (HDR_fr w3992 gce8 f4025 rfl (HDR_fr hW gce8 f3993 rfl hhdr8))
        have h4095 : RY T H4020 m (d8 0 3) g8 (H m 32) := (RY_fr w3992 gm f4025 rfl (RY_fr hW gm f3993 rfl h3982))
        have h4096 : RB T H4020 m e8 d8 := (RB_fr w3992 gm f4025 rfl h4016)
        exact WL.loc hX (by simp) (next T H4020 ⟨⟨w4024, g0, gx, gm, go, by omega, by omega⟩, ⟨_, tc, tm, cu, dr, _, _, _, _, _, ce8, q4075, gtc, h4083, q4077, gtm, h4084, q4079, gcu, q4081, gdr, h4085, h4086, h4087, h4088, h4089, hC1, hC2, h4090, h4096, (h4091).1, (h4095).1, hE, hZ, (by omega), (by assumption), (by omega), (by first | assumption | exact SG_0), q4093, gce8, h4082, h4094, a4036, gm⟩, by omega, by omega⟩ (by omega) (by omega))
      · refine wl_of hX hb cL_1054 (rw_iconst (pc' := 1055) rfl ?_)
        exfalso
        omega
  · show WL _ _ _ _ 1035 [(4, vI i), (3, .ref o), (2, .ref m), (1, .ref x), (0, .ref 0)] [vI z3994] _ H3988
    refine wl_of hX hb cL_1035 (rw_aload_n (pc' := 1036) (v := .ref m) rfl rfl rfl ?_)
    refine wl_of hX hb cL_1036 (rw_aload_n (pc' := 1037) (v := .ref 0) rfl rfl rfl ?_)
    refine wl_of hX hb cL_1037 (rw_iload (pc' := 1039) (z := i) rfl rfl ?_)
    refine wl_of hX hb cL_1039 (rw_iconst (pc' := 1040) rfl ?_)
    refine wl_of hX hb cL_1040 (rw_iadd (pc' := 1041) rfl ?_)
    have k4099 : H3988 0 ((i + 1).toNat) = H 0 ((i + 1).toNat) := (f3993 0 ((i + 1).toNat) _ g0 (wmem_s rfl))
    refine wl_of hX hb cL_1041 (xa_I (so := 0) (pc' := 1042) (a := 0) w3992 g0 (wsh_s _) (by omega) (wty_s _ _) (by omega) (by omega) rfl (fun b4097 b4098 => ?_))
    refine wl_of hX hb cL_1042 (rw_aload_n (pc' := 1043) (v := .ref 0) rfl rfl rfl ?_)
    refine wl_of hX hb cL_1043 (rw_iload (pc' := 1045) (z := i) rfl rfl ?_)
    refine wl_of hX hb cL_1045 (rw_iconst (pc' := 1046) rfl ?_)
    refine wl_of hX hb cL_1046 (rw_iadd (pc' := 1047) rfl ?_)
    have k4102 : H3988 0 ((i + 2).toNat) = H 0 ((i + 2).toNat) := (f3993 0 ((i + 2).toNat) _ g0 (wmem_s rfl))
    refine wl_of hX hb cL_1047 (xa_I (so := 0) (pc' := 1048) (a := 0) w3992 g0 (wsh_s _) (by omega) (wty_s _ _) (by omega) (by omega) rfl (fun b4100 b4101 => ?_))
    have k4103 : wKI H3988 m = wKI H m := (wKI_fr hW gm f3993 rfl)
    have k4104 : H3988 x 9 = H x 9 := (f3993 x 9 _ gx rfl)
    have k4105 : H3988 m 6 = H m 6 := (f3993 m 6 _ gm rfl)
    have k4106 : H3988 x 11 = H x 11 := (f3993 x 11 _ gx rfl)
    have k4107 : H3988 m 13 = H m 13 := (f3993 m 13 _ gm rfl)
    have k4108 : H3988 x 8 = H x 8 := (f3993 x 8 _ gx rfl)
    have k4109 : H3988 m 3 = H m 3 := (f3993 m 3 _ gm rfl)
    rw [show H3988 0 ((i + 2).toNat) = H 0 ((i + 2).toNat) by omega]
    rw [show H3988 0 ((i + 1).toNat) = H 0 ((i + 1).toNat) by omega]
    have h4110 : RB T H3988 m e8 d8 := (RB_fr hW gm f3993 rfl hrb8)
    have h4111 : KNN T H3988 m e8 d8 := (KNN_fr hW gm f3993 rfl hknn8)
    refine wl_of hX hb cL_1048 (xc_V (pc' := 1051) (r := m) (as := [vI (H 0 ((i + 1).toNat)), vI (H 0 ((i + 2).toNat))]) (st := [vI z3994]) (lm_11_138) rfl rfl (Nat.le_of_ble_eq_true rfl) w3992 gm sh_42 (by decide) rfl (by decide) (u_261 (e := e8) (d := d8) w3992 gm ⟨by omega, by omega⟩ ⟨by omega, by omega⟩ (by omega) (by assumption) (by assumption) (by assumption) (by assumption) h4110 h4111) (fun R4112 T4113 H4114 p4115 => ?_))
    obtain ⟨e4116, w4118, f4119, z4120, e4117, b4121, p4122⟩ := p4115
    subst e4116
    subst e4117
    rcases p4122 with ⟨a4123, a4124, a4125, a4126⟩ | ⟨a4127, a4128, a4129, a4130⟩
    · show WL _ _ _ _ 1051 [(4, vI i), (3, .ref o), (2, .ref m), (1, .ref x), (0, .ref 0)] [vI z4120, vI z3994] _ H4114
      refine wl_of hX hb cL_1051 (rw_icmp_eq (p1 := 1653) (p2 := 1054) (by decide) rfl ⟨b3995.1, b3995.2⟩ ⟨b4121.1, b4121.2⟩ (fun c4131 => ?_) (fun c4131 => ?_))
      · have k4132 : H4114 x 9 = H3988 x 9 := (f4119 x 9 _ gx rfl)
        have k4133 : H4114 m 6 = H3988 m 6 := (f4119 m 6 _ gm rfl)
        have k4134 : H4114 x 11 = H3988 x 11 := (f4119 x 11 _ gx rfl)
        have k4135 : H4114 m 13 = H3988 m 13 := (f4119 m 13 _ gm rfl)
        have k4136 : H4114 x 8 = H3988 x 8 := (f4119 x 8 _ gx rfl)
        have k4137 : H4114 m 3 = H3988 m 3 := (f4119 m 3 _ gm rfl)
        have k4138 : H4114 x 0 = H x 0 := ((f4119 x 0 _ gx rfl).trans (f3993 x 0 _ gx rfl))
        have q4139 : H4114 x 0 = (tc : Int) := k4138.trans e0
        have k4140 : H4114 m 5 = H m 5 := ((f4119 m 5 _ gm rfl).trans (f3993 m 5 _ gm rfl))
        have q4141 : H4114 m 5 = (tm : Int) := k4140.trans em
        have k4142 : H4114 x 6 = H x 6 := ((f4119 x 6 _ gx rfl).trans (f3993 x 6 _ gx rfl))
        have q4143 : H4114 x 6 = (cu : Int) := k4142.trans ecu
        have k4144 : H4114 x 7 = H x 7 := ((f4119 x 7 _ gx rfl).trans (f3993 x 7 _ gx rfl))
        have q4145 : H4114 x 7 = (dr : Int) := k4144.trans edr
        have h4146 : CEN T H4114 ce8 e8 d8 := (CEN_fr w3992 gce8 f4119 rfl a4002)
        have h4147 : TP T H4114 tc B := (TP_fr w3992 gtc f4119 rfl (TP_fr hW gtc f3993 rfl htc))
        have h4148 : TM T H4114 tm B := (TM_fr w3992 gtm f4119 rfl (TM_fr hW gtm f3993 rfl htm))
        have h4149 : DD T H4114 cu  := (DD_fr w3992 gcu f4119 rfl (DD_fr hW gcu f3993 rfl hcu))
        have h4150 : DD T H4114 dr  := (DD_fr w3992 gdr f4119 rfl (DD_fr hW gdr f3993 rfl hdr))
        have h4151 : DE T H4114 cu  := (DE_fr w3992 gcu f4119 rfl (DE_fr hW gcu f3993 rfl hdec))
        have h4152 : DE T H4114 dr  := (DE_fr w3992 gdr f4119 rfl (DE_fr hW gdr f3993 rfl hded))
        have h4153 : SP T H4114 x C8 := (SP_fr w3992 gx f4119 rfl (SP_fr hW gx f3993 rfl hsp))
        have h4154 : CU T H4114 cu e8 d8 n8 := (CU_fr w3992 gcu f4119 rfl (CU_fr hW gcu f3993 rfl hcu8))
        have h4155 : CY T H4114 cu (d8 0 3) g8 (H cu 17) := (CY_fr w3992 gcu f4119 rfl (CY_fr hW gcu f3993 rfl h3981))
        have k4156 : H4114 x 3 = H x 3 := ((f4119 x 3 _ gx rfl).trans (f3993 x 3 _ gx rfl))
        have q4157 : H4114 x 3 = (ce8 : Int) := k4156.trans ece8
        have h4158 : HDR T H4114 ce8  := (HDR_fr w3992 gce8 f4119 rfl (HDR_fr hW gce8 f3993 rfl hhdr8))
        have h4159 : RY T H4114 m (d8 0 3) g8 (H m 32) := (RY_fr w3992 gm f4119 rfl (RY_fr hW gm f3993 rfl h3982))
        have h4160 : RB T H4114 m e8 d8 := (RB_fr w3992 gm f4119 rfl h4110)
        exact WL.loc hX (by simp) (next T H4114 ⟨⟨w4118, g0, gx, gm, go, by omega, by omega⟩, ⟨_, tc, tm, cu, dr, _, _, _, _, _, ce8, q4139, gtc, h4147, q4141, gtm, h4148, q4143, gcu, q4145, gdr, h4149, h4150, h4151, h4152, h4153, hC1, hC2, h4154, h4160, (h4155).1, (h4159).1, hE, hZ, (by omega), (by assumption), (by omega), (by first | assumption | exact SG_0), q4157, gce8, h4146, h4158, a4126, gm⟩, by omega, by omega⟩ (by omega) (by omega))
      · refine wl_of hX hb cL_1054 (rw_iconst (pc' := 1055) rfl ?_)
        exfalso
        omega
    · show WL _ _ _ _ 1051 [(4, vI i), (3, .ref o), (2, .ref m), (1, .ref x), (0, .ref 0)] [vI z4120, vI z3994] _ H4114
      refine wl_of hX hb cL_1051 (rw_icmp_eq (p1 := 1653) (p2 := 1054) (by decide) rfl ⟨b3995.1, b3995.2⟩ ⟨b4121.1, b4121.2⟩ (fun c4161 => ?_) (fun c4161 => ?_))
      · have k4162 : H4114 x 9 = H3988 x 9 := (f4119 x 9 _ gx rfl)
        have k4163 : H4114 m 6 = H3988 m 6 := (f4119 m 6 _ gm rfl)
        have k4164 : H4114 x 11 = H3988 x 11 := (f4119 x 11 _ gx rfl)
        have k4165 : H4114 m 13 = H3988 m 13 := (f4119 m 13 _ gm rfl)
        have k4166 : H4114 x 8 = H3988 x 8 := (f4119 x 8 _ gx rfl)
        have k4167 : H4114 m 3 = H3988 m 3 := (f4119 m 3 _ gm rfl)
        have k4168 : H4114 x 0 = H x 0 := ((f4119 x 0 _ gx rfl).trans (f3993 x 0 _ gx rfl))
        have q4169 : H4114 x 0 = (tc : Int) := k4168.trans e0
        have k4170 : H4114 m 5 = H m 5 := ((f4119 m 5 _ gm rfl).trans (f3993 m 5 _ gm rfl))
        have q4171 : H4114 m 5 = (tm : Int) := k4170.trans em
        have k4172 : H4114 x 6 = H x 6 := ((f4119 x 6 _ gx rfl).trans (f3993 x 6 _ gx rfl))
        have q4173 : H4114 x 6 = (cu : Int) := k4172.trans ecu
        have k4174 : H4114 x 7 = H x 7 := ((f4119 x 7 _ gx rfl).trans (f3993 x 7 _ gx rfl))
        have q4175 : H4114 x 7 = (dr : Int) := k4174.trans edr
        have h4176 : CEN T H4114 ce8 e8 d8 := (CEN_fr w3992 gce8 f4119 rfl a4002)
        have h4177 : TP T H4114 tc B := (TP_fr w3992 gtc f4119 rfl (TP_fr hW gtc f3993 rfl htc))
        have h4178 : TM T H4114 tm B := (TM_fr w3992 gtm f4119 rfl (TM_fr hW gtm f3993 rfl htm))
        have h4179 : DD T H4114 cu  := (DD_fr w3992 gcu f4119 rfl (DD_fr hW gcu f3993 rfl hcu))
        have h4180 : DD T H4114 dr  := (DD_fr w3992 gdr f4119 rfl (DD_fr hW gdr f3993 rfl hdr))
        have h4181 : DE T H4114 cu  := (DE_fr w3992 gcu f4119 rfl (DE_fr hW gcu f3993 rfl hdec))
        have h4182 : DE T H4114 dr  := (DE_fr w3992 gdr f4119 rfl (DE_fr hW gdr f3993 rfl hded))
        have h4183 : SP T H4114 x C8 := (SP_fr w3992 gx f4119 rfl (SP_fr hW gx f3993 rfl hsp))
        have h4184 : CU T H4114 cu e8 d8 n8 := (CU_fr w3992 gcu f4119 rfl (CU_fr hW gcu f3993 rfl hcu8))
        have h4185 : CY T H4114 cu (d8 0 3) g8 (H cu 17) := (CY_fr w3992 gcu f4119 rfl (CY_fr hW gcu f3993 rfl h3981))
        have k4186 : H4114 x 3 = H x 3 := ((f4119 x 3 _ gx rfl).trans (f3993 x 3 _ gx rfl))
        have q4187 : H4114 x 3 = (ce8 : Int) := k4186.trans ece8
        have h4188 : HDR T H4114 ce8  := (HDR_fr w3992 gce8 f4119 rfl (HDR_fr hW gce8 f3993 rfl hhdr8))
        have h4189 : RY T H4114 m (d8 0 3) g8 (H m 32) := (RY_fr w3992 gm f4119 rfl (RY_fr hW gm f3993 rfl h3982))
        have h4190 : RB T H4114 m e8 d8 := (RB_fr w3992 gm f4119 rfl h4110)
        exact WL.loc hX (by simp) (next T H4114 ⟨⟨w4118, g0, gx, gm, go, by omega, by omega⟩, ⟨_, tc, tm, cu, dr, _, _, _, _, _, ce8, q4169, gtc, h4177, q4171, gtm, h4178, q4173, gcu, q4175, gdr, h4179, h4180, h4181, h4182, h4183, hC1, hC2, h4184, h4190, (h4185).1, (h4189).1, hE, hZ, (by omega), (by assumption), (by omega), (by first | assumption | exact SG_0), q4187, gce8, h4176, h4188, a4130, gm⟩, by omega, by omega⟩ (by omega) (by omega))
      · refine wl_of hX hb cL_1054 (rw_iconst (pc' := 1055) rfl ?_)
        exfalso
        omega
set_option maxHeartbeats 4000000 in
theorem wl_c28 {kt : Nat → Option mc_E} {CB SB : Nat} {X : mc_S → Prop} {T : wq_T} {H : wq_H} {Len x m o : Nat} {i : Int} (hX : wlX kt CB SB X) (hb : T.2.1 ≤ CB ∧ T.2.2.1 ≤ SB) (hI : wlJ Len x m o T H) (hL : Len ≤ 3072) (hi : 0 ≤ i ∧ i + 6 ≤ Len) (hb2 : T.2.1 + 20 ≤ CB ∧ T.2.2.1 + 500 ≤ SB)  (next : ∀ T' H', wlJ Len x m o T' H' → T'.2.1 ≤ T.2.1 + 20 → T'.2.2.1 ≤ T.2.2.1 + 500 → WL kt CB SB X 1653 (wlL i x m o) [] T' H') : WL kt CB SB X 1056 (wlL i x m o) [] T H := by
  obtain ⟨⟨hW, g0, gx, gm, go, hK, hr⟩, hXI, hY1, hY2⟩ := hI
  refine wl_of hX hb cL_1056 (rw_aload_n (pc' := 1057) (v := .ref x) rfl rfl rfl ?_)
  refine wl_of hX hb cL_1057 (rw_aload_n (pc' := 1058) (v := .ref 0) rfl rfl rfl ?_)
  refine wl_of hX hb cL_1058 (rw_iload (pc' := 1060) (z := i) rfl rfl ?_)
  refine wl_of hX hb cL_1060 (rw_iconst (pc' := 1061) rfl ?_)
  refine wl_of hX hb cL_1061 (rw_iadd (pc' := 1062) rfl ?_)
  refine wl_of hX hb cL_1062 (xa_I (so := 0) (pc' := 1063) (a := 0) hW g0 (wsh_s _) (by omega) (wty_s _ _) (by omega) (by omega) rfl (fun b4191 b4192 => ?_))
  refine wl_of hX hb cL_1063 (rw_aload_n (pc' := 1064) (v := .ref 0) rfl rfl rfl ?_)
  refine wl_of hX hb cL_1064 (rw_iload (pc' := 1066) (z := i) rfl rfl ?_)
  refine wl_of hX hb cL_1066 (rw_iconst (pc' := 1067) rfl ?_)
  refine wl_of hX hb cL_1067 (rw_iadd (pc' := 1068) rfl ?_)
  refine wl_of hX hb cL_1068 (xa_I (so := 0) (pc' := 1069) (a := 0) hW g0 (wsh_s _) (by omega) (wty_s _ _) (by omega) (by omega) rfl (fun b4193 b4194 => ?_))
  refine wl_of hX hb cL_1069 (rw_if_eq (p1 := 1076) (p2 := 1072) (by decide) rfl ⟨by omega, by omega⟩ (fun c4195 => ?_) (fun c4195 => ?_))
  · refine wl_of hX hb cL_1076 (rw_iconst (pc' := 1077) rfl ?_)
    obtain ⟨B, tc, tm, cu, dr, C8, e8, d8, n8, g8, ce8, e0, gtc, htc, em, gtm, htm, ecu, gcu, edr, gdr, hcu, hdr, hdec, hded, hsp, hC1, hC2, hcu8, hrb8, hcg8, hmn8, hE, hZ, hn8, hXA, hV8, hSG, ece8, gce8, hcen8, hhdr8, hknn8, -⟩ := hXI
    have hN3 := RB_n3 hrb8
    have hE13 : ∀ h : Nat, h < 24 → 0 ≤ e8 13 h ∧ e8 13 h ≤ 100 := fun k hk => by
      obtain ⟨s, h1, h2, h3⟩ := hcu8.1.2.2.1
      exact ⟨(h3 k hk).1, (h3 k hk).2.1⟩
    have hXW := hXA.1
    have hXN := hXA.2
    have hE0 : e8 0 3 = d8 0 3 ∧ e8 0 0 = d8 0 0 := by
      have h := hE 0 (by decide)
      exact ⟨congrFun h 3, congrFun h 0⟩
    have u4196 := CU_k hcu8
    have h4197 : CY T H cu (d8 0 3) g8 (H cu 17) := ⟨hcg8, rfl⟩
    have h4198 : RY T H m (d8 0 3) g8 (H m 32) := ⟨hmn8, rfl⟩
    obtain ⟨t9, ht9⟩ : ∃ t : Int, t = H x 9 := ⟨_, rfl⟩
    obtain ⟨y9, hy9⟩ : ∃ y : Int, y = 0 := ⟨_, rfl⟩
    obtain ⟨r4199, q4200, g4201⟩ := hW.ref gx (t' := 6) (n := 13) (j := 2) (p := 0) (q := 0) rfl (by decide) rfl
    refine wl_of hX hb cL_1077 (xc_V (pc' := 1080) (r := x) (as := [vI (H 0 ((i + 1).toNat)), vI 0]) (st := []) (lm_11_139) rfl rfl (Nat.le_of_ble_eq_true rfl) hW gx sh_1 (by decide) rfl (by decide) (u_117 (e := e8) (d := d8) (n := n8) hW gx ⟨by omega, by omega⟩ ⟨by decide, by decide⟩ ecu gcu q4200 g4201 ece8 gce8 (by assumption) (by assumption) (by omega) (by omega) (by omega) (by omega) hcu8 hcen8 hhdr8) (fun R4202 T4203 H4204 p4205 => ?_))
    obtain ⟨e4206, w4208, f4209, z4210, e4207, b4211, p4212⟩ := p4205
    subst e4206
    subst e4207
    show WL _ _ _ _ 1080 [(4, vI i), (3, .ref o), (2, .ref m), (1, .ref x), (0, .ref 0)] [vI z4210] _ H4204
    refine wl_of hX hb cL_1080 (rw_pop (pc' := 1081) rfl rfl ?_)
    refine wl_of hX hb cL_1081 (rw_aload_n (pc' := 1082) (v := .ref m) rfl rfl rfl ?_)
    refine wl_of hX hb cL_1082 (rw_aload_n (pc' := 1083) (v := .ref 0) rfl rfl rfl ?_)
    refine wl_of hX hb cL_1083 (rw_iload (pc' := 1085) (z := i) rfl rfl ?_)
    refine wl_of hX hb cL_1085 (rw_iconst (pc' := 1086) rfl ?_)
    refine wl_of hX hb cL_1086 (rw_iadd (pc' := 1087) rfl ?_)
    have k4216 : H4204 0 ((i + 1).toNat) = H 0 ((i + 1).toNat) := (f4209 0 ((i + 1).toNat) _ g0 (wmem_s rfl))
    refine wl_of hX hb cL_1087 (xa_I (so := 0) (pc' := 1088) (a := 0) w4208 g0 (wsh_s _) (by omega) (wty_s _ _) (by omega) (by omega) rfl (fun b4214 b4215 => ?_))
    refine wl_of hX hb cL_1088 (rw_aload_n (pc' := 1089) (v := .ref 0) rfl rfl rfl ?_)
    refine wl_of hX hb cL_1089 (rw_iload (pc' := 1091) (z := i) rfl rfl ?_)
    refine wl_of hX hb cL_1091 (rw_iconst (pc' := 1092) rfl ?_)
    refine wl_of hX hb cL_1092 (rw_iadd (pc' := 1093) rfl ?_)
    have k4219 : H4204 0 ((i + 2).toNat) = H 0 ((i + 2).toNat) := (f4209 0 ((i + 2).toNat) _ g0 (wmem_s rfl))
    refine wl_of hX hb cL_1093 (xa_I (so := 0) (pc' := 1094) (a := 0) w4208 g0 (wsh_s _) (by omega) (wty_s _ _) (by omega) (by omega) rfl (fun b4217 b4218 => ?_))
    refine wl_of hX hb cL_1094 (rw_if_eq (p1 := 1101) (p2 := 1097) (by decide) rfl ⟨by omega, by omega⟩ (fun c4220 => ?_) (fun c4220 => ?_))
    · refine wl_of hX hb cL_1101 (rw_iconst (pc' := 1102) rfl ?_)
      have k4221 : wKI H4204 m = wKI H m := (wKI_fr hW gm f4209 rfl)
      have k4222 : H4204 x 9 = H x 9 := (f4209 x 9 _ gx rfl)
      have k4223 : H4204 m 6 = H m 6 := (f4209 m 6 _ gm rfl)
      have k4224 : H4204 x 11 = H x 11 := (f4209 x 11 _ gx rfl)
      have k4225 : H4204 m 13 = H m 13 := (f4209 m 13 _ gm rfl)
      have k4226 : H4204 x 8 = H x 8 := (f4209 x 8 _ gx rfl)
      have k4227 : H4204 m 3 = H m 3 := (f4209 m 3 _ gm rfl)
      rw [show H4204 0 ((i + 1).toNat) = H 0 ((i + 1).toNat) by omega]
      have h4228 : RB T H4204 m e8 d8 := (RB_fr hW gm f4209 rfl hrb8)
      have h4229 : KNN T H4204 m e8 d8 := (KNN_fr hW gm f4209 rfl hknn8)
      refine wl_of hX hb cL_1102 (xc_V (pc' := 1105) (r := m) (as := [vI (H 0 ((i + 1).toNat)), vI 0]) (st := []) (lm_11_142) rfl rfl (Nat.le_of_ble_eq_true rfl) w4208 gm sh_42 (by decide) rfl (by decide) (u_263 (e := e8) (d := d8) w4208 gm ⟨by omega, by omega⟩ ⟨by decide, by decide⟩ (by omega) (by assumption) (by assumption) (by assumption) (by assumption) h4228 h4229) (fun R4230 T4231 H4232 p4233 => ?_))
      obtain ⟨e4234, w4236, f4237, z4238, e4235, b4239, p4240⟩ := p4233
      subst e4234
      subst e4235
      obtain ⟨a4241, a4242⟩ := p4240
      show WL _ _ _ _ 1105 [(4, vI i), (3, .ref o), (2, .ref m), (1, .ref x), (0, .ref 0)] [vI z4238] _ H4232
      refine wl_of hX hb cL_1105 (rw_pop (pc' := 1106) rfl rfl ?_)
      refine wl_of hX hb cL_1106 (rw_goto (p1 := 1653) (by decide) ?_)
      have k4243 : H4232 x 9 = H4204 x 9 := (f4237 x 9 _ gx rfl)
      have k4244 : H4232 m 6 = H4204 m 6 := (f4237 m 6 _ gm rfl)
      have k4245 : H4232 x 11 = H4204 x 11 := (f4237 x 11 _ gx rfl)
      have k4246 : H4232 m 13 = H4204 m 13 := (f4237 m 13 _ gm rfl)
      have k4247 : H4232 x 8 = H4204 x 8 := (f4237 x 8 _ gx rfl)
      have k4248 : H4232 m 3 = H4204 m 3 := (f4237 m 3 _ gm rfl)
      have k4249 : H4232 x 0 = H x 0 := ((f4237 x 0 _ gx rfl).trans (f4209 x 0 _ gx rfl))
      have q4250 : H4232 x 0 = (tc : Int) := k4249.trans e0
      have k4251 : H4232 m 5 = H m 5 := ((f4237 m 5 _ gm rfl).trans (f4209 m 5 _ gm rfl))
      have q4252 : H4232 m 5 = (tm : Int) := k4251.trans em
      have k4253 : H4232 x 6 = H x 6 := ((f4237 x 6 _ gx rfl).trans (f4209 x 6 _ gx rfl))
      have q4254 : H4232 x 6 = (cu : Int) := k4253.trans ecu
      have k4255 : H4232 x 7 = H x 7 := ((f4237 x 7 _ gx rfl).trans (f4209 x 7 _ gx rfl))
      have q4256 : H4232 x 7 = (dr : Int) := k4255.trans edr
      have h4257 : CEN T H4232 ce8 e8 d8 := (CEN_fr w4208 gce8 f4237 rfl p4212)
      have h4258 : TP T H4232 tc B := (TP_fr w4208 gtc f4237 rfl (TP_fr hW gtc f4209 rfl htc))
      have h4259 : TM T H4232 tm B := (TM_fr w4208 gtm f4237 rfl (TM_fr hW gtm f4209 rfl htm))
      have h4260 : DD T H4232 cu  := (DD_fr w4208 gcu f4237 rfl (DD_fr hW gcu f4209 rfl hcu))
      have h4261 : DD T H4232 dr  := (DD_fr w4208 gdr f4237 rfl (DD_fr hW gdr f4209 rfl hdr))
      have h4262 : DE T H4232 cu  := (DE_fr w4208 gcu f4237 rfl (DE_fr hW gcu f4209 rfl hdec))
      have h4263 : DE T H4232 dr  := (DE_fr w4208 gdr f4237 rfl (DE_fr hW gdr f4209 rfl hded))
      have h4264 : SP T H4232 x C8 := (SP_fr w4208 gx f4237 rfl (SP_fr hW gx f4209 rfl hsp))
      have h4265 : CU T H4232 cu e8 d8 n8 := (CU_fr w4208 gcu f4237 rfl (CU_fr hW gcu f4209 rfl hcu8))
      have h4266 : CY T H4232 cu (d8 0 3) g8 (H cu 17) := (CY_fr w4208 gcu f4237 rfl (CY_fr hW gcu f4209 rfl h4197))
      have k4267 : H4232 x 3 = H x 3 := ((f4237 x 3 _ gx rfl).trans (f4209 x 3 _ gx rfl))
      have q4268 : H4232 x 3 = (ce8 : Int) := k4267.trans ece8
      have h4269 : HDR T H4232 ce8  := (HDR_fr w4208 gce8 f4237 rfl (HDR_fr hW gce8 f4209 rfl hhdr8))
      have h4270 : RY T H4232 m (d8 0 3) g8 (H m 32) := (RY_fr w4208 gm f4237 rfl (RY_fr hW gm f4209 rfl h4198))
      have h4271 : RB T H4232 m e8 d8 := (RB_fr w4208 gm f4237 rfl h4228)
      exact WL.loc hX (by simp) (next T H4232 ⟨⟨w4236, g0, gx, gm, go, by omega, by omega⟩, ⟨_, tc, tm, cu, dr, _, _, _, _, _, ce8, q4250, gtc, h4258, q4252, gtm, h4259, q4254, gcu, q4256, gdr, h4260, h4261, h4262, h4263, h4264, hC1, hC2, h4265, h4271, (h4266).1, (h4270).1, hE, hZ, (by omega), (by assumption), (by omega), (by first | assumption | exact SG_0), q4268, gce8, h4257, h4269, a4242, gm⟩, by omega, by omega⟩ (by omega) (by omega))
    · exfalso
      omega
  · refine wl_of hX hb cL_1072 (rw_iconst (pc' := 1073) rfl ?_)
    refine wl_of hX hb cL_1073 (rw_goto (p1 := 1077) (by decide) ?_)
    obtain ⟨B, tc, tm, cu, dr, C8, e8, d8, n8, g8, ce8, e0, gtc, htc, em, gtm, htm, ecu, gcu, edr, gdr, hcu, hdr, hdec, hded, hsp, hC1, hC2, hcu8, hrb8, hcg8, hmn8, hE, hZ, hn8, hXA, hV8, hSG, ece8, gce8, hcen8, hhdr8, hknn8, -⟩ := hXI
    have hN3 := RB_n3 hrb8
    have hE13 : ∀ h : Nat, h < 24 → 0 ≤ e8 13 h ∧ e8 13 h ≤ 100 := fun k hk => by
      obtain ⟨s, h1, h2, h3⟩ := hcu8.1.2.2.1
      exact ⟨(h3 k hk).1, (h3 k hk).2.1⟩
    have hXW := hXA.1
    have hXN := hXA.2
    have hE0 : e8 0 3 = d8 0 3 ∧ e8 0 0 = d8 0 0 := by
      have h := hE 0 (by decide)
      exact ⟨congrFun h 3, congrFun h 0⟩
    have u4272 := CU_k hcu8
    have h4273 : CY T H cu (d8 0 3) g8 (H cu 17) := ⟨hcg8, rfl⟩
    have h4274 : RY T H m (d8 0 3) g8 (H m 32) := ⟨hmn8, rfl⟩
    obtain ⟨t9, ht9⟩ : ∃ t : Int, t = H x 9 := ⟨_, rfl⟩
    obtain ⟨y9, hy9⟩ : ∃ y : Int, y = 1 := ⟨_, rfl⟩
    obtain ⟨r4275, q4276, g4277⟩ := hW.ref gx (t' := 6) (n := 13) (j := 2) (p := 0) (q := 0) rfl (by decide) rfl
    refine wl_of hX hb cL_1077 (xc_V (pc' := 1080) (r := x) (as := [vI (H 0 ((i + 1).toNat)), vI 1]) (st := []) (lm_11_139) rfl rfl (Nat.le_of_ble_eq_true rfl) hW gx sh_1 (by decide) rfl (by decide) (u_117 (e := e8) (d := d8) (n := n8) hW gx ⟨by omega, by omega⟩ ⟨by decide, by decide⟩ ecu gcu q4276 g4277 ece8 gce8 (by assumption) (by assumption) (by omega) (by omega) (by omega) (by omega) hcu8 hcen8 hhdr8) (fun R4278 T4279 H4280 p4281 => ?_))
    obtain ⟨e4282, w4284, f4285, z4286, e4283, b4287, p4288⟩ := p4281
    subst e4282
    subst e4283
    show WL _ _ _ _ 1080 [(4, vI i), (3, .ref o), (2, .ref m), (1, .ref x), (0, .ref 0)] [vI z4286] _ H4280
    refine wl_of hX hb cL_1080 (rw_pop (pc' := 1081) rfl rfl ?_)
    refine wl_of hX hb cL_1081 (rw_aload_n (pc' := 1082) (v := .ref m) rfl rfl rfl ?_)
    refine wl_of hX hb cL_1082 (rw_aload_n (pc' := 1083) (v := .ref 0) rfl rfl rfl ?_)
    refine wl_of hX hb cL_1083 (rw_iload (pc' := 1085) (z := i) rfl rfl ?_)
    refine wl_of hX hb cL_1085 (rw_iconst (pc' := 1086) rfl ?_)
    refine wl_of hX hb cL_1086 (rw_iadd (pc' := 1087) rfl ?_)
    have k4292 : H4280 0 ((i + 1).toNat) = H 0 ((i + 1).toNat) := (f4285 0 ((i + 1).toNat) _ g0 (wmem_s rfl))
    refine wl_of hX hb cL_1087 (xa_I (so := 0) (pc' := 1088) (a := 0) w4284 g0 (wsh_s _) (by omega) (wty_s _ _) (by omega) (by omega) rfl (fun b4290 b4291 => ?_))
    refine wl_of hX hb cL_1088 (rw_aload_n (pc' := 1089) (v := .ref 0) rfl rfl rfl ?_)
    refine wl_of hX hb cL_1089 (rw_iload (pc' := 1091) (z := i) rfl rfl ?_)
    refine wl_of hX hb cL_1091 (rw_iconst (pc' := 1092) rfl ?_)
    refine wl_of hX hb cL_1092 (rw_iadd (pc' := 1093) rfl ?_)
    have k4295 : H4280 0 ((i + 2).toNat) = H 0 ((i + 2).toNat) := (f4285 0 ((i + 2).toNat) _ g0 (wmem_s rfl))
    refine wl_of hX hb cL_1093 (xa_I (so := 0) (pc' := 1094) (a := 0) w4284 g0 (wsh_s _) (by omega) (wty_s _ _) (by omega) (by omega) rfl (fun b4293 b4294 => ?_))
    refine wl_of hX hb cL_1094 (rw_if_eq (p1 := 1101) (p2 := 1097) (by decide) rfl ⟨by omega, by omega⟩ (fun c4296 => ?_) (fun c4296 => ?_))
    · refine wl_of hX hb cL_1101 (rw_iconst (pc' := 1102) rfl ?_)
      have k4297 : wKI H4280 m = wKI H m := (wKI_fr hW gm f4285 rfl)
      have k4298 : H4280 x 9 = H x 9 := (f4285 x 9 _ gx rfl)
      have k4299 : H4280 m 6 = H m 6 := (f4285 m 6 _ gm rfl)
      have k4300 : H4280 x 11 = H x 11 := (f4285 x 11 _ gx rfl)
      have k4301 : H4280 m 13 = H m 13 := (f4285 m 13 _ gm rfl)
      have k4302 : H4280 x 8 = H x 8 := (f4285 x 8 _ gx rfl)
      have k4303 : H4280 m 3 = H m 3 := (f4285 m 3 _ gm rfl)
      rw [show H4280 0 ((i + 1).toNat) = H 0 ((i + 1).toNat) by omega]
      have h4304 : RB T H4280 m e8 d8 := (RB_fr hW gm f4285 rfl hrb8)
      have h4305 : KNN T H4280 m e8 d8 := (KNN_fr hW gm f4285 rfl hknn8)
      refine wl_of hX hb cL_1102 (xc_V (pc' := 1105) (r := m) (as := [vI (H 0 ((i + 1).toNat)), vI 0]) (st := []) (lm_11_142) rfl rfl (Nat.le_of_ble_eq_true rfl) w4284 gm sh_42 (by decide) rfl (by decide) (u_263 (e := e8) (d := d8) w4284 gm ⟨by omega, by omega⟩ ⟨by decide, by decide⟩ (by omega) (by assumption) (by assumption) (by assumption) (by assumption) h4304 h4305) (fun R4306 T4307 H4308 p4309 => ?_))
      obtain ⟨e4310, w4312, f4313, z4314, e4311, b4315, p4316⟩ := p4309
      subst e4310
      subst e4311
      obtain ⟨a4317, a4318⟩ := p4316
      show WL _ _ _ _ 1105 [(4, vI i), (3, .ref o), (2, .ref m), (1, .ref x), (0, .ref 0)] [vI z4314] _ H4308
      refine wl_of hX hb cL_1105 (rw_pop (pc' := 1106) rfl rfl ?_)
      refine wl_of hX hb cL_1106 (rw_goto (p1 := 1653) (by decide) ?_)
      have k4319 : H4308 x 9 = H4280 x 9 := (f4313 x 9 _ gx rfl)
      have k4320 : H4308 m 6 = H4280 m 6 := (f4313 m 6 _ gm rfl)
      have k4321 : H4308 x 11 = H4280 x 11 := (f4313 x 11 _ gx rfl)
      have k4322 : H4308 m 13 = H4280 m 13 := (f4313 m 13 _ gm rfl)
      have k4323 : H4308 x 8 = H4280 x 8 := (f4313 x 8 _ gx rfl)
      have k4324 : H4308 m 3 = H4280 m 3 := (f4313 m 3 _ gm rfl)
      have k4325 : H4308 x 0 = H x 0 := ((f4313 x 0 _ gx rfl).trans (f4285 x 0 _ gx rfl))
      have q4326 : H4308 x 0 = (tc : Int) := k4325.trans e0
      have k4327 : H4308 m 5 = H m 5 := ((f4313 m 5 _ gm rfl).trans (f4285 m 5 _ gm rfl))
      have q4328 : H4308 m 5 = (tm : Int) := k4327.trans em
      have k4329 : H4308 x 6 = H x 6 := ((f4313 x 6 _ gx rfl).trans (f4285 x 6 _ gx rfl))
      have q4330 : H4308 x 6 = (cu : Int) := k4329.trans ecu
      have k4331 : H4308 x 7 = H x 7 := ((f4313 x 7 _ gx rfl).trans (f4285 x 7 _ gx rfl))
      have q4332 : H4308 x 7 = (dr : Int) := k4331.trans edr
      have h4333 : CEN T H4308 ce8 e8 d8 := (CEN_fr w4284 gce8 f4313 rfl p4288)
      have h4334 : TP T H4308 tc B := (TP_fr w4284 gtc f4313 rfl (TP_fr hW gtc f4285 rfl htc))
      have h4335 : TM T H4308 tm B := (TM_fr w4284 gtm f4313 rfl (TM_fr hW gtm f4285 rfl htm))
      have h4336 : DD T H4308 cu  := (DD_fr w4284 gcu f4313 rfl (DD_fr hW gcu f4285 rfl hcu))
      have h4337 : DD T H4308 dr  := (DD_fr w4284 gdr f4313 rfl (DD_fr hW gdr f4285 rfl hdr))
      have h4338 : DE T H4308 cu  := (DE_fr w4284 gcu f4313 rfl (DE_fr hW gcu f4285 rfl hdec))
      have h4339 : DE T H4308 dr  := (DE_fr w4284 gdr f4313 rfl (DE_fr hW gdr f4285 rfl hded))
      have h4340 : SP T H4308 x C8 := (SP_fr w4284 gx f4313 rfl (SP_fr hW gx f4285 rfl hsp))
      have h4341 : CU T H4308 cu e8 d8 n8 := (CU_fr w4284 gcu f4313 rfl (CU_fr hW gcu f4285 rfl hcu8))
      have h4342 : CY T H4308 cu (d8 0 3) g8 (H cu 17) := (CY_fr w4284 gcu f4313 rfl (CY_fr hW gcu f4285 rfl h4273))
      have k4343 : H4308 x 3 = H x 3 := ((f4313 x 3 _ gx rfl).trans (f4285 x 3 _ gx rfl))
      have q4344 : H4308 x 3 = (ce8 : Int) := k4343.trans ece8
      have h4345 : HDR T H4308 ce8  := (HDR_fr w4284 gce8 f4313 rfl (HDR_fr hW gce8 f4285 rfl hhdr8))
      have h4346 : RY T H4308 m (d8 0 3) g8 (H m 32) := (RY_fr w4284 gm f4313 rfl (RY_fr hW gm f4285 rfl h4274))
      have h4347 : RB T H4308 m e8 d8 := (RB_fr w4284 gm f4313 rfl h4304)
      exact WL.loc hX (by simp) (next T H4308 ⟨⟨w4312, g0, gx, gm, go, by omega, by omega⟩, ⟨_, tc, tm, cu, dr, _, _, _, _, _, ce8, q4326, gtc, h4334, q4328, gtm, h4335, q4330, gcu, q4332, gdr, h4336, h4337, h4338, h4339, h4340, hC1, hC2, h4341, h4347, (h4342).1, (h4346).1, hE, hZ, (by omega), (by assumption), (by omega), (by first | assumption | exact SG_0), q4344, gce8, h4333, h4345, a4318, gm⟩, by omega, by omega⟩ (by omega) (by omega))
    · refine wl_of hX hb cL_1097 (rw_iconst (pc' := 1098) rfl ?_)
      refine wl_of hX hb cL_1098 (rw_goto (p1 := 1102) (by decide) ?_)
      have k4348 : wKI H4280 m = wKI H m := (wKI_fr hW gm f4285 rfl)
      have k4349 : H4280 x 9 = H x 9 := (f4285 x 9 _ gx rfl)
      have k4350 : H4280 m 6 = H m 6 := (f4285 m 6 _ gm rfl)
      have k4351 : H4280 x 11 = H x 11 := (f4285 x 11 _ gx rfl)
      have k4352 : H4280 m 13 = H m 13 := (f4285 m 13 _ gm rfl)
      have k4353 : H4280 x 8 = H x 8 := (f4285 x 8 _ gx rfl)
      have k4354 : H4280 m 3 = H m 3 := (f4285 m 3 _ gm rfl)
      rw [show H4280 0 ((i + 1).toNat) = H 0 ((i + 1).toNat) by omega]
      have h4355 : RB T H4280 m e8 d8 := (RB_fr hW gm f4285 rfl hrb8)
      have h4356 : KNN T H4280 m e8 d8 := (KNN_fr hW gm f4285 rfl hknn8)
      refine wl_of hX hb cL_1102 (xc_V (pc' := 1105) (r := m) (as := [vI (H 0 ((i + 1).toNat)), vI 1]) (st := []) (lm_11_142) rfl rfl (Nat.le_of_ble_eq_true rfl) w4284 gm sh_42 (by decide) rfl (by decide) (u_263 (e := e8) (d := d8) w4284 gm ⟨by omega, by omega⟩ ⟨by decide, by decide⟩ (by omega) (by assumption) (by assumption) (by assumption) (by assumption) h4355 h4356) (fun R4357 T4358 H4359 p4360 => ?_))
      obtain ⟨e4361, w4363, f4364, z4365, e4362, b4366, p4367⟩ := p4360
      subst e4361
      subst e4362
      obtain ⟨a4368, a4369⟩ := p4367
      show WL _ _ _ _ 1105 [(4, vI i), (3, .ref o), (2, .ref m), (1, .ref x), (0, .ref 0)] [vI z4365] _ H4359
      refine wl_of hX hb cL_1105 (rw_pop (pc' := 1106) rfl rfl ?_)
      refine wl_of hX hb cL_1106 (rw_goto (p1 := 1653) (by decide) ?_)
      have k4370 : H4359 x 9 = H4280 x 9 := (f4364 x 9 _ gx rfl)
      have k4371 : H4359 m 6 = H4280 m 6 := (f4364 m 6 _ gm rfl)
      have k4372 : H4359 x 11 = H4280 x 11 := (f4364 x 11 _ gx rfl)
      have k4373 : H4359 m 13 = H4280 m 13 := (f4364 m 13 _ gm rfl)
      have k4374 : H4359 x 8 = H4280 x 8 := (f4364 x 8 _ gx rfl)
      have k4375 : H4359 m 3 = H4280 m 3 := (f4364 m 3 _ gm rfl)
      have k4376 : H4359 x 0 = H x 0 := ((f4364 x 0 _ gx rfl).trans (f4285 x 0 _ gx rfl))
      have q4377 : H4359 x 0 = (tc : Int) := k4376.trans e0
      have k4378 : H4359 m 5 = H m 5 := ((f4364 m 5 _ gm rfl).trans (f4285 m 5 _ gm rfl))
      have q4379 : H4359 m 5 = (tm : Int) := k4378.trans em
      have k4380 : H4359 x 6 = H x 6 := ((f4364 x 6 _ gx rfl).trans (f4285 x 6 _ gx rfl))
      have q4381 : H4359 x 6 = (cu : Int) := k4380.trans ecu
      have k4382 : H4359 x 7 = H x 7 := ((f4364 x 7 _ gx rfl).trans (f4285 x 7 _ gx rfl))
      have q4383 : H4359 x 7 = (dr : Int) := k4382.trans edr
      have h4384 : CEN T H4359 ce8 e8 d8 := (CEN_fr w4284 gce8 f4364 rfl p4288)
      have h4385 : TP T H4359 tc B := (TP_fr w4284 gtc f4364 rfl (TP_fr hW gtc f4285 rfl htc))
      have h4386 : TM T H4359 tm B := (TM_fr w4284 gtm f4364 rfl (TM_fr hW gtm f4285 rfl htm))
      have h4387 : DD T H4359 cu  := (DD_fr w4284 gcu f4364 rfl (DD_fr hW gcu f4285 rfl hcu))
      have h4388 : DD T H4359 dr  := (DD_fr w4284 gdr f4364 rfl (DD_fr hW gdr f4285 rfl hdr))
      have h4389 : DE T H4359 cu  := (DE_fr w4284 gcu f4364 rfl (DE_fr hW gcu f4285 rfl hdec))
      have h4390 : DE T H4359 dr  := (DE_fr w4284 gdr f4364 rfl (DE_fr hW gdr f4285 rfl hded))
      have h4391 : SP T H4359 x C8 := (SP_fr w4284 gx f4364 rfl (SP_fr hW gx f4285 rfl hsp))
      have h4392 : CU T H4359 cu e8 d8 n8 := (CU_fr w4284 gcu f4364 rfl (CU_fr hW gcu f4285 rfl hcu8))
      have h4393 : CY T H4359 cu (d8 0 3) g8 (H cu 17) := (CY_fr w4284 gcu f4364 rfl (CY_fr hW gcu f4285 rfl h4273))
      have k4394 : H4359 x 3 = H x 3 := ((f4364 x 3 _ gx rfl).trans (f4285 x 3 _ gx rfl))
      have q4395 : H4359 x 3 = (ce8 : Int) := k4394.trans ece8
      have h4396 : HDR T H4359 ce8  := (HDR_fr w4284 gce8 f4364 rfl (HDR_fr hW gce8 f4285 rfl hhdr8))
      have h4397 : RY T H4359 m (d8 0 3) g8 (H m 32) := (RY_fr w4284 gm f4364 rfl (RY_fr hW gm f4285 rfl h4274))
      have h4398 : RB T H4359 m e8 d8 := (RB_fr w4284 gm f4364 rfl h4355)
      exact WL.loc hX (by simp) (next T H4359 ⟨⟨w4363, g0, gx, gm, go, by omega, by omega⟩, ⟨_, tc, tm, cu, dr, _, _, _, _, _, ce8, q4377, gtc, h4385, q4379, gtm, h4386, q4381, gcu, q4383, gdr, h4387, h4388, h4389, h4390, h4391, hC1, hC2, h4392, h4398, (h4393).1, (h4397).1, hE, hZ, (by omega), (by assumption), (by omega), (by first | assumption | exact SG_0), q4395, gce8, h4384, h4396, a4369, gm⟩, by omega, by omega⟩ (by omega) (by omega))
