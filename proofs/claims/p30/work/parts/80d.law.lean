/-! THE LAW, GONE ON WITH (own work) -/
set_option maxHeartbeats 4000000 in
theorem wl_c22 {kt : Nat → Option mc_E} {CB SB : Nat} {X : mc_S → Prop} {T : wq_T} {H : wq_H} {Len x m o : Nat} {i : Int} (hX : wlX kt CB SB X) (hb : T.2.1 ≤ CB ∧ T.2.2.1 ≤ SB) (hI : wlJ Len x m o T H) (hL : Len ≤ 3072) (hi : 0 ≤ i ∧ i + 6 ≤ Len) (hb2 : T.2.1 + 20 ≤ CB ∧ T.2.2.1 + 500 ≤ SB)  (next : ∀ T' H', wlJ Len x m o T' H' → T'.2.1 ≤ T.2.1 + 20 → T'.2.2.1 ≤ T.2.2.1 + 500 → WL kt CB SB X 1653 (wlL i x m o) [] T' H') : WL kt CB SB X 882 (wlL i x m o) [] T H := by
  obtain ⟨⟨hW, g0, gx, gm, go, hK, hr⟩, hXI, hY1, hY2⟩ := hI
  refine wl_of hX hb cL_882 (rw_aload_n (pc' := 883) (v := .ref x) rfl rfl rfl ?_)
  refine wl_of hX hb cL_883 (rw_aload_n (pc' := 884) (v := .ref 0) rfl rfl rfl ?_)
  refine wl_of hX hb cL_884 (rw_iload (pc' := 886) (z := i) rfl rfl ?_)
  refine wl_of hX hb cL_886 (rw_iconst (pc' := 887) rfl ?_)
  refine wl_of hX hb cL_887 (rw_iadd (pc' := 888) rfl ?_)
  refine wl_of hX hb cL_888 (xa_I (so := 0) (pc' := 889) (a := 0) hW g0 (wsh_s _) (by omega) (wty_s _ _) (by omega) (by omega) rfl (fun b3601 b3602 => ?_))
  refine wl_of hX hb cL_889 (rw_aload_n (pc' := 890) (v := .ref 0) rfl rfl rfl ?_)
  refine wl_of hX hb cL_890 (rw_iload (pc' := 892) (z := i) rfl rfl ?_)
  refine wl_of hX hb cL_892 (rw_iconst (pc' := 893) rfl ?_)
  refine wl_of hX hb cL_893 (rw_iadd (pc' := 894) rfl ?_)
  refine wl_of hX hb cL_894 (xa_I (so := 0) (pc' := 895) (a := 0) hW g0 (wsh_s _) (by omega) (wty_s _ _) (by omega) (by omega) rfl (fun b3603 b3604 => ?_))
  obtain ⟨B, tc, tm, cu, dr, C8, e8, d8, n8, g8, ce8, e0, gtc, htc, em, gtm, htm, ecu, gcu, edr, gdr, hcu, hdr, hdec, hded, hsp, hC1, hC2, hcu8, hrb8, hcg8, hmn8, hE, hZ, hn8, hXA, hV8, hSG, ece8, gce8, hcen8, hhdr8, hknn8, -⟩ := hXI
  have hN3 := RB_n3 hrb8
  have hE13 : ∀ h : Nat, h < 24 → 0 ≤ e8 13 h ∧ e8 13 h ≤ 100 := fun k hk => by
    obtain ⟨s, h1, h2, h3⟩ := hcu8.1.2.2.1
    exact ⟨(h3 k hk).1, (h3 k hk).2.1⟩
  have hXW := hXA.1
  have hXN := hXA.2
  have hE0 : e8 0 3 = d8 0 3 ∧ e8 0 0 = d8 0 0 := by
    have h := hE 0 (by decide)
    exact ⟨congrFun h 3, congrFun h 0⟩
  have u3605 := CU_k hcu8
  have h3606 : CY T H cu (d8 0 3) g8 (H cu 17) := ⟨hcg8, rfl⟩
  have h3607 : RY T H m (d8 0 3) g8 (H m 32) := ⟨hmn8, rfl⟩
  obtain ⟨t9, ht9⟩ : ∃ t : Int, t = H x 9 := ⟨_, rfl⟩
  obtain ⟨y9, hy9⟩ : ∃ y : Int, y = H 0 ((i + 2).toNat) := ⟨_, rfl⟩
  obtain ⟨r3608, q3609, g3610⟩ := hW.ref gx (t' := 6) (n := 13) (j := 2) (p := 0) (q := 0) rfl (by decide) rfl
  refine wl_of hX hb cL_895 (xc_V (pc' := 898) (r := x) (as := [vI (H 0 ((i + 1).toNat)), vI (H 0 ((i + 2).toNat))]) (st := []) (lm_11_114) rfl rfl (Nat.le_of_ble_eq_true rfl) hW gx sh_1 (by decide) rfl (by decide) (u_105 (e := e8) (d := d8) (n := n8) hW gx ⟨by omega, by omega⟩ ⟨by omega, by omega⟩ ecu gcu q3609 g3610 ece8 gce8 (by assumption) (by assumption) (by omega) (by omega) (by omega) (by omega) hcu8 hcen8 hhdr8) (fun R3611 T3612 H3613 p3614 => ?_))
  obtain ⟨e3615, w3617, f3618, z3619, e3616, b3620, p3621⟩ := p3614
  subst e3615
  subst e3616
  show WL _ _ _ _ 898 [(4, vI i), (3, .ref o), (2, .ref m), (1, .ref x), (0, .ref 0)] [vI z3619] _ H3613
  refine wl_of hX hb cL_898 (rw_pop (pc' := 899) rfl rfl ?_)
  refine wl_of hX hb cL_899 (rw_aload_n (pc' := 900) (v := .ref m) rfl rfl rfl ?_)
  refine wl_of hX hb cL_900 (rw_aload_n (pc' := 901) (v := .ref 0) rfl rfl rfl ?_)
  refine wl_of hX hb cL_901 (rw_iload (pc' := 903) (z := i) rfl rfl ?_)
  refine wl_of hX hb cL_903 (rw_iconst (pc' := 904) rfl ?_)
  refine wl_of hX hb cL_904 (rw_iadd (pc' := 905) rfl ?_)
  have k3625 : H3613 0 ((i + 1).toNat) = H 0 ((i + 1).toNat) := (f3618 0 ((i + 1).toNat) _ g0 (wmem_s rfl))
  refine wl_of hX hb cL_905 (xa_I (so := 0) (pc' := 906) (a := 0) w3617 g0 (wsh_s _) (by omega) (wty_s _ _) (by omega) (by omega) rfl (fun b3623 b3624 => ?_))
  refine wl_of hX hb cL_906 (rw_aload_n (pc' := 907) (v := .ref 0) rfl rfl rfl ?_)
  refine wl_of hX hb cL_907 (rw_iload (pc' := 909) (z := i) rfl rfl ?_)
  refine wl_of hX hb cL_909 (rw_iconst (pc' := 910) rfl ?_)
  refine wl_of hX hb cL_910 (rw_iadd (pc' := 911) rfl ?_)
  have k3628 : H3613 0 ((i + 2).toNat) = H 0 ((i + 2).toNat) := (f3618 0 ((i + 2).toNat) _ g0 (wmem_s rfl))
  refine wl_of hX hb cL_911 (xa_I (so := 0) (pc' := 912) (a := 0) w3617 g0 (wsh_s _) (by omega) (wty_s _ _) (by omega) (by omega) rfl (fun b3626 b3627 => ?_))
  have k3629 : wKI H3613 m = wKI H m := (wKI_fr hW gm f3618 rfl)
  have k3630 : H3613 x 9 = H x 9 := (f3618 x 9 _ gx rfl)
  have k3631 : H3613 m 6 = H m 6 := (f3618 m 6 _ gm rfl)
  have k3632 : H3613 x 11 = H x 11 := (f3618 x 11 _ gx rfl)
  have k3633 : H3613 m 13 = H m 13 := (f3618 m 13 _ gm rfl)
  have k3634 : H3613 x 8 = H x 8 := (f3618 x 8 _ gx rfl)
  have k3635 : H3613 m 3 = H m 3 := (f3618 m 3 _ gm rfl)
  rw [show H3613 0 ((i + 2).toNat) = H 0 ((i + 2).toNat) by omega]
  rw [show H3613 0 ((i + 1).toNat) = H 0 ((i + 1).toNat) by omega]
  have h3636 : RB T H3613 m e8 d8 := (RB_fr hW gm f3618 rfl hrb8)
  have h3637 : KNN T H3613 m e8 d8 := (KNN_fr hW gm f3618 rfl hknn8)
  refine wl_of hX hb cL_912 (xc_V (pc' := 915) (r := m) (as := [vI (H 0 ((i + 1).toNat)), vI (H 0 ((i + 2).toNat))]) (st := []) (lm_11_117) rfl rfl (Nat.le_of_ble_eq_true rfl) w3617 gm sh_42 (by decide) rfl (by decide) (u_255 (e := e8) (d := d8) w3617 gm ⟨by omega, by omega⟩ ⟨by omega, by omega⟩ (by omega) (by assumption) (by assumption) (by assumption) (by assumption) h3636 h3637) (fun R3638 T3639 H3640 p3641 => ?_))
  obtain ⟨e3642, w3644, f3645, z3646, e3643, b3647, p3648⟩ := p3641
  subst e3642
  subst e3643
  obtain ⟨a3649, a3650⟩ := p3648
  show WL _ _ _ _ 915 [(4, vI i), (3, .ref o), (2, .ref m), (1, .ref x), (0, .ref 0)] [vI z3646] _ H3640
  refine wl_of hX hb cL_915 (rw_pop (pc' := 916) rfl rfl ?_)
  refine wl_of hX hb cL_916 (rw_goto (p1 := 1653) (by decide) ?_)
  have k3651 : H3640 x 9 = H3613 x 9 := (f3645 x 9 _ gx rfl)
  have k3652 : H3640 m 6 = H3613 m 6 := (f3645 m 6 _ gm rfl)
  have k3653 : H3640 x 11 = H3613 x 11 := (f3645 x 11 _ gx rfl)
  have k3654 : H3640 m 13 = H3613 m 13 := (f3645 m 13 _ gm rfl)
  have k3655 : H3640 x 8 = H3613 x 8 := (f3645 x 8 _ gx rfl)
  have k3656 : H3640 m 3 = H3613 m 3 := (f3645 m 3 _ gm rfl)
  have k3657 : H3640 x 0 = H x 0 := ((f3645 x 0 _ gx rfl).trans (f3618 x 0 _ gx rfl))
  have q3658 : H3640 x 0 = (tc : Int) := k3657.trans e0
  have k3659 : H3640 m 5 = H m 5 := ((f3645 m 5 _ gm rfl).trans (f3618 m 5 _ gm rfl))
  have q3660 : H3640 m 5 = (tm : Int) := k3659.trans em
  have k3661 : H3640 x 6 = H x 6 := ((f3645 x 6 _ gx rfl).trans (f3618 x 6 _ gx rfl))
  have q3662 : H3640 x 6 = (cu : Int) := k3661.trans ecu
  have k3663 : H3640 x 7 = H x 7 := ((f3645 x 7 _ gx rfl).trans (f3618 x 7 _ gx rfl))
  have q3664 : H3640 x 7 = (dr : Int) := k3663.trans edr
  have h3665 : CEN T H3640 ce8 e8 d8 := (CEN_fr w3617 gce8 f3645 rfl p3621)
  have h3666 : TP T H3640 tc B := (TP_fr w3617 gtc f3645 rfl (TP_fr hW gtc f3618 rfl htc))
  have h3667 : TM T H3640 tm B := (TM_fr w3617 gtm f3645 rfl (TM_fr hW gtm f3618 rfl htm))
  have h3668 : DD T H3640 cu  := (DD_fr w3617 gcu f3645 rfl (DD_fr hW gcu f3618 rfl hcu))
  have h3669 : DD T H3640 dr  := (DD_fr w3617 gdr f3645 rfl (DD_fr hW gdr f3618 rfl hdr))
  have h3670 : DE T H3640 cu  := (DE_fr w3617 gcu f3645 rfl (DE_fr hW gcu f3618 rfl hdec))
  have h3671 : DE T H3640 dr  := (DE_fr w3617 gdr f3645 rfl (DE_fr hW gdr f3618 rfl hded))
  have h3672 : SP T H3640 x C8 := (SP_fr w3617 gx f3645 rfl (SP_fr hW gx f3618 rfl hsp))
  have h3673 : CU T H3640 cu e8 d8 n8 := (CU_fr w3617 gcu f3645 rfl (CU_fr hW gcu f3618 rfl hcu8))
  have h3674 : CY T H3640 cu (d8 0 3) g8 (H cu 17) := (CY_fr w3617 gcu f3645 rfl (CY_fr hW gcu f3618 rfl h3606))
  have k3675 : H3640 x 3 = H x 3 := ((f3645 x 3 _ gx rfl).trans (f3618 x 3 _ gx rfl))
  have q3676 : H3640 x 3 = (ce8 : Int) := k3675.trans ece8
  have h3677 : HDR T H3640 ce8  := (HDR_fr w3617 gce8 f3645 rfl (HDR_fr hW gce8 f3618 rfl hhdr8))
  have h3678 : RY T H3640 m (d8 0 3) g8 (H m 32) := (RY_fr w3617 gm f3645 rfl (RY_fr hW gm f3618 rfl h3607))
  have h3679 : RB T H3640 m e8 d8 := (RB_fr w3617 gm f3645 rfl h3636)
  exact WL.loc hX (by simp) (next T H3640 ⟨⟨w3644, g0, gx, gm, go, by omega, by omega⟩, ⟨_, tc, tm, cu, dr, _, _, _, _, _, ce8, q3658, gtc, h3666, q3660, gtm, h3667, q3662, gcu, q3664, gdr, h3668, h3669, h3670, h3671, h3672, hC1, hC2, h3673, h3679, (h3674).1, (h3678).1, hE, hZ, (by omega), (by assumption), (by omega), (by first | assumption | exact SG_0), q3676, gce8, h3665, h3677, a3650, gm⟩, by omega, by omega⟩ (by omega) (by omega))
set_option maxHeartbeats 4000000 in
theorem wl_c23 {kt : Nat → Option mc_E} {CB SB : Nat} {X : mc_S → Prop} {T : wq_T} {H : wq_H} {Len x m o : Nat} {i : Int} (hX : wlX kt CB SB X) (hb : T.2.1 ≤ CB ∧ T.2.2.1 ≤ SB) (hI : wlJ Len x m o T H) (hL : Len ≤ 3072) (hi : 0 ≤ i ∧ i + 6 ≤ Len) (hb2 : T.2.1 + 20 ≤ CB ∧ T.2.2.1 + 500 ≤ SB)  (next : ∀ T' H', wlJ Len x m o T' H' → T'.2.1 ≤ T.2.1 + 20 → T'.2.2.1 ≤ T.2.2.1 + 500 → WL kt CB SB X 1653 (wlL i x m o) [] T' H') : WL kt CB SB X 919 (wlL i x m o) [] T H := by
  obtain ⟨⟨hW, g0, gx, gm, go, hK, hr⟩, hXI, hY1, hY2⟩ := hI
  refine wl_of hX hb cL_919 (rw_aload_n (pc' := 920) (v := .ref x) rfl rfl rfl ?_)
  refine wl_of hX hb cL_920 (rw_aload_n (pc' := 921) (v := .ref 0) rfl rfl rfl ?_)
  refine wl_of hX hb cL_921 (rw_iload (pc' := 923) (z := i) rfl rfl ?_)
  refine wl_of hX hb cL_923 (rw_iconst (pc' := 924) rfl ?_)
  refine wl_of hX hb cL_924 (rw_iadd (pc' := 925) rfl ?_)
  refine wl_of hX hb cL_925 (xa_I (so := 0) (pc' := 926) (a := 0) hW g0 (wsh_s _) (by omega) (wty_s _ _) (by omega) (by omega) rfl (fun b3680 b3681 => ?_))
  obtain ⟨B, tc, tm, cu, dr, C8, e8, d8, n8, g8, ce8, e0, gtc, htc, em, gtm, htm, ecu, gcu, edr, gdr, hcu, hdr, hdec, hded, hsp, hC1, hC2, hcu8, hrb8, hcg8, hmn8, hE, hZ, hn8, hXA, hV8, hSG, ece8, gce8, hcen8, hhdr8, hknn8, -⟩ := hXI
  have hN3 := RB_n3 hrb8
  have hE13 : ∀ h : Nat, h < 24 → 0 ≤ e8 13 h ∧ e8 13 h ≤ 100 := fun k hk => by
    obtain ⟨s, h1, h2, h3⟩ := hcu8.1.2.2.1
    exact ⟨(h3 k hk).1, (h3 k hk).2.1⟩
  have hXW := hXA.1
  have hXN := hXA.2
  have hE0 : e8 0 3 = d8 0 3 ∧ e8 0 0 = d8 0 0 := by
    have h := hE 0 (by decide)
    exact ⟨congrFun h 3, congrFun h 0⟩
  have u3682 := CU_k hcu8
  have h3683 : CY T H cu (d8 0 3) g8 (H cu 17) := ⟨hcg8, rfl⟩
  have h3684 : RY T H m (d8 0 3) g8 (H m 32) := ⟨hmn8, rfl⟩
  obtain ⟨t9, ht9⟩ : ∃ t : Int, t = H x 9 := ⟨_, rfl⟩
  obtain ⟨y9, hy9⟩ : ∃ y : Int, y = H 0 ((i + 1).toNat) := ⟨_, rfl⟩
  obtain ⟨r3685, q3686, g3687⟩ := hW.ref gx (t' := 6) (n := 13) (j := 2) (p := 0) (q := 0) rfl (by decide) rfl
  refine wl_of hX hb cL_926 (xc_V (pc' := 929) (r := x) (as := [vI (H 0 ((i + 1).toNat))]) (st := []) (lm_11_118) rfl rfl (Nat.le_of_ble_eq_true rfl) hW gx sh_1 (by decide) rfl (by decide) (u_107 (e := e8) (d := d8) (n := n8) hW gx ⟨by omega, by omega⟩ ecu gcu q3686 g3687 ece8 gce8 (by assumption) (by assumption) (by omega) (by omega) (by omega) (by omega) hcu8 hcen8 hhdr8) (fun R3688 T3689 H3690 p3691 => ?_))
  obtain ⟨e3692, w3694, f3695, z3696, e3693, b3697, p3698⟩ := p3691
  subst e3692
  subst e3693
  show WL _ _ _ _ 929 [(4, vI i), (3, .ref o), (2, .ref m), (1, .ref x), (0, .ref 0)] [vI z3696] _ H3690
  refine wl_of hX hb cL_929 (rw_pop (pc' := 930) rfl rfl ?_)
  refine wl_of hX hb cL_930 (rw_aload_n (pc' := 931) (v := .ref m) rfl rfl rfl ?_)
  refine wl_of hX hb cL_931 (rw_aload_n (pc' := 932) (v := .ref 0) rfl rfl rfl ?_)
  refine wl_of hX hb cL_932 (rw_iload (pc' := 934) (z := i) rfl rfl ?_)
  refine wl_of hX hb cL_934 (rw_iconst (pc' := 935) rfl ?_)
  refine wl_of hX hb cL_935 (rw_iadd (pc' := 936) rfl ?_)
  have k3702 : H3690 0 ((i + 1).toNat) = H 0 ((i + 1).toNat) := (f3695 0 ((i + 1).toNat) _ g0 (wmem_s rfl))
  refine wl_of hX hb cL_936 (xa_I (so := 0) (pc' := 937) (a := 0) w3694 g0 (wsh_s _) (by omega) (wty_s _ _) (by omega) (by omega) rfl (fun b3700 b3701 => ?_))
  have k3703 : wKI H3690 m = wKI H m := (wKI_fr hW gm f3695 rfl)
  have k3704 : H3690 x 9 = H x 9 := (f3695 x 9 _ gx rfl)
  have k3705 : H3690 m 6 = H m 6 := (f3695 m 6 _ gm rfl)
  have k3706 : H3690 x 11 = H x 11 := (f3695 x 11 _ gx rfl)
  have k3707 : H3690 m 13 = H m 13 := (f3695 m 13 _ gm rfl)
  have k3708 : H3690 x 8 = H x 8 := (f3695 x 8 _ gx rfl)
  have k3709 : H3690 m 3 = H m 3 := (f3695 m 3 _ gm rfl)
  rw [show H3690 0 ((i + 1).toNat) = H 0 ((i + 1).toNat) by omega]
  have h3710 : RB T H3690 m e8 d8 := (RB_fr hW gm f3695 rfl hrb8)
  have h3711 : KNN T H3690 m e8 d8 := (KNN_fr hW gm f3695 rfl hknn8)
  refine wl_of hX hb cL_937 (xc_V (pc' := 940) (r := m) (as := [vI (H 0 ((i + 1).toNat))]) (st := []) (lm_11_121) rfl rfl (Nat.le_of_ble_eq_true rfl) w3694 gm sh_42 (by decide) rfl (by decide) (u_256 (e := e8) (d := d8) w3694 gm ⟨by omega, by omega⟩ (by omega) (by assumption) (by assumption) (by assumption) (by assumption) h3710 h3711) (fun R3712 T3713 H3714 p3715 => ?_))
  obtain ⟨e3716, w3718, f3719, z3720, e3717, b3721, p3722⟩ := p3715
  subst e3716
  subst e3717
  obtain ⟨a3723, a3724⟩ := p3722
  show WL _ _ _ _ 940 [(4, vI i), (3, .ref o), (2, .ref m), (1, .ref x), (0, .ref 0)] [vI z3720] _ H3714
  refine wl_of hX hb cL_940 (rw_pop (pc' := 941) rfl rfl ?_)
  refine wl_of hX hb cL_941 (rw_goto (p1 := 1653) (by decide) ?_)
  have k3725 : H3714 x 9 = H3690 x 9 := (f3719 x 9 _ gx rfl)
  have k3726 : H3714 m 6 = H3690 m 6 := (f3719 m 6 _ gm rfl)
  have k3727 : H3714 x 11 = H3690 x 11 := (f3719 x 11 _ gx rfl)
  have k3728 : H3714 m 13 = H3690 m 13 := (f3719 m 13 _ gm rfl)
  have k3729 : H3714 x 8 = H3690 x 8 := (f3719 x 8 _ gx rfl)
  have k3730 : H3714 m 3 = H3690 m 3 := (f3719 m 3 _ gm rfl)
  have k3731 : H3714 x 0 = H x 0 := ((f3719 x 0 _ gx rfl).trans (f3695 x 0 _ gx rfl))
  have q3732 : H3714 x 0 = (tc : Int) := k3731.trans e0
  have k3733 : H3714 m 5 = H m 5 := ((f3719 m 5 _ gm rfl).trans (f3695 m 5 _ gm rfl))
  have q3734 : H3714 m 5 = (tm : Int) := k3733.trans em
  have k3735 : H3714 x 6 = H x 6 := ((f3719 x 6 _ gx rfl).trans (f3695 x 6 _ gx rfl))
  have q3736 : H3714 x 6 = (cu : Int) := k3735.trans ecu
  have k3737 : H3714 x 7 = H x 7 := ((f3719 x 7 _ gx rfl).trans (f3695 x 7 _ gx rfl))
  have q3738 : H3714 x 7 = (dr : Int) := k3737.trans edr
  have h3739 : CEN T H3714 ce8 e8 d8 := (CEN_fr w3694 gce8 f3719 rfl p3698)
  have h3740 : TP T H3714 tc B := (TP_fr w3694 gtc f3719 rfl (TP_fr hW gtc f3695 rfl htc))
  have h3741 : TM T H3714 tm B := (TM_fr w3694 gtm f3719 rfl (TM_fr hW gtm f3695 rfl htm))
  have h3742 : DD T H3714 cu  := (DD_fr w3694 gcu f3719 rfl (DD_fr hW gcu f3695 rfl hcu))
  have h3743 : DD T H3714 dr  := (DD_fr w3694 gdr f3719 rfl (DD_fr hW gdr f3695 rfl hdr))
  have h3744 : DE T H3714 cu  := (DE_fr w3694 gcu f3719 rfl (DE_fr hW gcu f3695 rfl hdec))
  have h3745 : DE T H3714 dr  := (DE_fr w3694 gdr f3719 rfl (DE_fr hW gdr f3695 rfl hded))
  have h3746 : SP T H3714 x C8 := (SP_fr w3694 gx f3719 rfl (SP_fr hW gx f3695 rfl hsp))
  have h3747 : CU T H3714 cu e8 d8 n8 := (CU_fr w3694 gcu f3719 rfl (CU_fr hW gcu f3695 rfl hcu8))
  have h3748 : CY T H3714 cu (d8 0 3) g8 (H cu 17) := (CY_fr w3694 gcu f3719 rfl (CY_fr hW gcu f3695 rfl h3683))
  have k3749 : H3714 x 3 = H x 3 := ((f3719 x 3 _ gx rfl).trans (f3695 x 3 _ gx rfl))
  have q3750 : H3714 x 3 = (ce8 : Int) := k3749.trans ece8
  have h3751 : HDR T H3714 ce8  := (HDR_fr w3694 gce8 f3719 rfl (HDR_fr hW gce8 f3695 rfl hhdr8))
  have h3752 : RY T H3714 m (d8 0 3) g8 (H m 32) := (RY_fr w3694 gm f3719 rfl (RY_fr hW gm f3695 rfl h3684))
  have h3753 : RB T H3714 m e8 d8 := (RB_fr w3694 gm f3719 rfl h3710)
  exact WL.loc hX (by simp) (next T H3714 ⟨⟨w3718, g0, gx, gm, go, by omega, by omega⟩, ⟨_, tc, tm, cu, dr, _, _, _, _, _, ce8, q3732, gtc, h3740, q3734, gtm, h3741, q3736, gcu, q3738, gdr, h3742, h3743, h3744, h3745, h3746, hC1, hC2, h3747, h3753, (h3748).1, (h3752).1, hE, hZ, (by omega), (by assumption), (by omega), (by first | assumption | exact SG_0), q3750, gce8, h3739, h3751, a3724, gm⟩, by omega, by omega⟩ (by omega) (by omega))
set_option maxHeartbeats 4000000 in
theorem wl_c24 {kt : Nat → Option mc_E} {CB SB : Nat} {X : mc_S → Prop} {T : wq_T} {H : wq_H} {Len x m o : Nat} {i : Int} (hX : wlX kt CB SB X) (hb : T.2.1 ≤ CB ∧ T.2.2.1 ≤ SB) (hI : wlJ Len x m o T H) (hL : Len ≤ 3072) (hi : 0 ≤ i ∧ i + 6 ≤ Len) (hb2 : T.2.1 + 20 ≤ CB ∧ T.2.2.1 + 500 ≤ SB)  (next : ∀ T' H', wlJ Len x m o T' H' → T'.2.1 ≤ T.2.1 + 20 → T'.2.2.1 ≤ T.2.2.1 + 500 → WL kt CB SB X 1653 (wlL i x m o) [] T' H') : WL kt CB SB X 944 (wlL i x m o) [] T H := by
  obtain ⟨⟨hW, g0, gx, gm, go, hK, hr⟩, hXI, hY1, hY2⟩ := hI
  refine wl_of hX hb cL_944 (rw_aload_n (pc' := 945) (v := .ref x) rfl rfl rfl ?_)
  obtain ⟨B, tc, tm, cu, dr, C8, e8, d8, n8, g8, ce8, e0, gtc, htc, em, gtm, htm, ecu, gcu, edr, gdr, hcu, hdr, hdec, hded, hsp, hC1, hC2, hcu8, hrb8, hcg8, hmn8, hE, hZ, hn8, hXA, hV8, hSG, ece8, gce8, hcen8, hhdr8, hknn8, -⟩ := hXI
  have hN3 := RB_n3 hrb8
  have hE13 : ∀ h : Nat, h < 24 → 0 ≤ e8 13 h ∧ e8 13 h ≤ 100 := fun k hk => by
    obtain ⟨s, h1, h2, h3⟩ := hcu8.1.2.2.1
    exact ⟨(h3 k hk).1, (h3 k hk).2.1⟩
  have hXW := hXA.1
  have hXN := hXA.2
  have hE0 : e8 0 3 = d8 0 3 ∧ e8 0 0 = d8 0 0 := by
    have h := hE 0 (by decide)
    exact ⟨congrFun h 3, congrFun h 0⟩
  have u3754 := CU_k hcu8
  have h3755 : CY T H cu (d8 0 3) g8 (H cu 17) := ⟨hcg8, rfl⟩
  have h3756 : RY T H m (d8 0 3) g8 (H m 32) := ⟨hmn8, rfl⟩
  obtain ⟨t9, ht9⟩ : ∃ t : Int, t = H x 9 := ⟨_, rfl⟩
  obtain ⟨r3757, q3758, g3759⟩ := hW.ref gx (t' := 6) (n := 13) (j := 2) (p := 0) (q := 0) rfl (by decide) rfl
  refine wl_of hX hb cL_945 (xc_V (pc' := 948) (r := x) (as := []) (st := []) (lm_11_122) rfl rfl (Nat.le_of_ble_eq_true rfl) hW gx sh_1 (by decide) rfl (by decide) (u_108 (e := e8) (d := d8) (n := n8) hW gx ecu gcu q3758 g3759 ece8 gce8 (by assumption) (by assumption) (by omega) (by omega) (by omega) (by omega) hcu8 hcen8 hhdr8) (fun R3760 T3761 H3762 p3763 => ?_))
  obtain ⟨e3764, w3766, f3767, z3768, e3765, b3769, p3770⟩ := p3763
  subst e3764
  subst e3765
  show WL _ _ _ _ 948 [(4, vI i), (3, .ref o), (2, .ref m), (1, .ref x), (0, .ref 0)] [vL z3768] _ H3762
  refine wl_of hX hb cL_948 (rw_pop2 (pc' := 949) rfl rfl ?_)
  refine wl_of hX hb cL_949 (rw_aload_n (pc' := 950) (v := .ref m) rfl rfl rfl ?_)
  have k3772 : wKI H3762 m = wKI H m := (wKI_fr hW gm f3767 rfl)
  have k3773 : H3762 x 9 = H x 9 := (f3767 x 9 _ gx rfl)
  have k3774 : H3762 m 6 = H m 6 := (f3767 m 6 _ gm rfl)
  have k3775 : H3762 x 11 = H x 11 := (f3767 x 11 _ gx rfl)
  have k3776 : H3762 m 13 = H m 13 := (f3767 m 13 _ gm rfl)
  have k3777 : H3762 x 8 = H x 8 := (f3767 x 8 _ gx rfl)
  have k3778 : H3762 m 3 = H m 3 := (f3767 m 3 _ gm rfl)
  have h3779 : RB T H3762 m e8 d8 := (RB_fr hW gm f3767 rfl hrb8)
  have h3780 : KNN T H3762 m e8 d8 := (KNN_fr hW gm f3767 rfl hknn8)
  refine wl_of hX hb cL_950 (xc_V (pc' := 953) (r := m) (as := []) (st := []) (lm_11_125) rfl rfl (Nat.le_of_ble_eq_true rfl) w3766 gm sh_42 (by decide) rfl (by decide) (u_258 (e := e8) (d := d8) w3766 gm (by omega) (by assumption) (by assumption) (by assumption) (by assumption) h3779 h3780) (fun R3781 T3782 H3783 p3784 => ?_))
  obtain ⟨e3785, w3787, f3788, z3789, e3786, b3790, p3791⟩ := p3784
  subst e3785
  subst e3786
  obtain ⟨a3792, a3793⟩ := p3791
  show WL _ _ _ _ 953 [(4, vI i), (3, .ref o), (2, .ref m), (1, .ref x), (0, .ref 0)] [vL z3789] _ H3783
  refine wl_of hX hb cL_953 (rw_pop2 (pc' := 954) rfl rfl ?_)
  refine wl_of hX hb cL_954 (rw_goto (p1 := 1653) (by decide) ?_)
  have k3794 : H3783 x 9 = H3762 x 9 := (f3788 x 9 _ gx rfl)
  have k3795 : H3783 m 6 = H3762 m 6 := (f3788 m 6 _ gm rfl)
  have k3796 : H3783 x 11 = H3762 x 11 := (f3788 x 11 _ gx rfl)
  have k3797 : H3783 m 13 = H3762 m 13 := (f3788 m 13 _ gm rfl)
  have k3798 : H3783 x 8 = H3762 x 8 := (f3788 x 8 _ gx rfl)
  have k3799 : H3783 m 3 = H3762 m 3 := (f3788 m 3 _ gm rfl)
  have k3800 : H3783 x 0 = H x 0 := ((f3788 x 0 _ gx rfl).trans (f3767 x 0 _ gx rfl))
  have q3801 : H3783 x 0 = (tc : Int) := k3800.trans e0
  have k3802 : H3783 m 5 = H m 5 := ((f3788 m 5 _ gm rfl).trans (f3767 m 5 _ gm rfl))
  have q3803 : H3783 m 5 = (tm : Int) := k3802.trans em
  have k3804 : H3783 x 6 = H x 6 := ((f3788 x 6 _ gx rfl).trans (f3767 x 6 _ gx rfl))
  have q3805 : H3783 x 6 = (cu : Int) := k3804.trans ecu
  have k3806 : H3783 x 7 = H x 7 := ((f3788 x 7 _ gx rfl).trans (f3767 x 7 _ gx rfl))
  have q3807 : H3783 x 7 = (dr : Int) := k3806.trans edr
  have h3808 : CEN T H3783 ce8 e8 d8 := (CEN_fr w3766 gce8 f3788 rfl p3770)
  have h3809 : TP T H3783 tc B := (TP_fr w3766 gtc f3788 rfl (TP_fr hW gtc f3767 rfl htc))
  have h3810 : TM T H3783 tm B := (TM_fr w3766 gtm f3788 rfl (TM_fr hW gtm f3767 rfl htm))
  have h3811 : DD T H3783 cu  := (DD_fr w3766 gcu f3788 rfl (DD_fr hW gcu f3767 rfl hcu))
  have h3812 : DD T H3783 dr  := (DD_fr w3766 gdr f3788 rfl (DD_fr hW gdr f3767 rfl hdr))
  have h3813 : DE T H3783 cu  := (DE_fr w3766 gcu f3788 rfl (DE_fr hW gcu f3767 rfl hdec))
  have h3814 : DE T H3783 dr  := (DE_fr w3766 gdr f3788 rfl (DE_fr hW gdr f3767 rfl hded))
  have h3815 : SP T H3783 x C8 := (SP_fr w3766 gx f3788 rfl (SP_fr hW gx f3767 rfl hsp))
  have h3816 : CU T H3783 cu e8 d8 n8 := (CU_fr w3766 gcu f3788 rfl (CU_fr hW gcu f3767 rfl hcu8))
  have h3817 : CY T H3783 cu (d8 0 3) g8 (H cu 17) := (CY_fr w3766 gcu f3788 rfl (CY_fr hW gcu f3767 rfl h3755))
  have k3818 : H3783 x 3 = H x 3 := ((f3788 x 3 _ gx rfl).trans (f3767 x 3 _ gx rfl))
  have q3819 : H3783 x 3 = (ce8 : Int) := k3818.trans ece8
  have h3820 : HDR T H3783 ce8  := (HDR_fr w3766 gce8 f3788 rfl (HDR_fr hW gce8 f3767 rfl hhdr8))
  have h3821 : RY T H3783 m (d8 0 3) g8 (H m 32) := (RY_fr w3766 gm f3788 rfl (RY_fr hW gm f3767 rfl h3756))
  have h3822 : RB T H3783 m e8 d8 := (RB_fr w3766 gm f3788 rfl h3779)
  exact WL.loc hX (by simp) (next T H3783 ⟨⟨w3787, g0, gx, gm, go, by omega, by omega⟩, ⟨_, tc, tm, cu, dr, _, _, _, _, _, ce8, q3801, gtc, h3809, q3803, gtm, h3810, q3805, gcu, q3807, gdr, h3811, h3812, h3813, h3814, h3815, hC1, hC2, h3816, h3822, (h3817).1, (h3821).1, hE, hZ, (by omega), (by assumption), (by omega), (by first | assumption | exact SG_0), q3819, gce8, h3808, h3820, a3793, gm⟩, by omega, by omega⟩ (by omega) (by omega))
set_option maxHeartbeats 4000000 in
theorem wl_c25 {kt : Nat → Option mc_E} {CB SB : Nat} {X : mc_S → Prop} {T : wq_T} {H : wq_H} {Len x m o : Nat} {i : Int} (hX : wlX kt CB SB X) (hb : T.2.1 ≤ CB ∧ T.2.2.1 ≤ SB) (hI : wlJ Len x m o T H) (hL : Len ≤ 3072) (hi : 0 ≤ i ∧ i + 6 ≤ Len) (hb2 : T.2.1 + 20 ≤ CB ∧ T.2.2.1 + 500 ≤ SB)  (next : ∀ T' H', wlJ Len x m o T' H' → T'.2.1 ≤ T.2.1 + 20 → T'.2.2.1 ≤ T.2.2.1 + 500 → WL kt CB SB X 1653 (wlL i x m o) [] T' H') : WL kt CB SB X 957 (wlL i x m o) [] T H := by
  obtain ⟨⟨hW, g0, gx, gm, go, hK, hr⟩, hXI, hY1, hY2⟩ := hI
  refine wl_of hX hb cL_957 (rw_aload_n (pc' := 958) (v := .ref x) rfl rfl rfl ?_)
  refine wl_of hX hb cL_958 (rw_aload_n (pc' := 959) (v := .ref 0) rfl rfl rfl ?_)
  refine wl_of hX hb cL_959 (rw_iload (pc' := 961) (z := i) rfl rfl ?_)
  refine wl_of hX hb cL_961 (rw_iconst (pc' := 962) rfl ?_)
  refine wl_of hX hb cL_962 (rw_iadd (pc' := 963) rfl ?_)
  refine wl_of hX hb cL_963 (xa_I (so := 0) (pc' := 964) (a := 0) hW g0 (wsh_s _) (by omega) (wty_s _ _) (by omega) (by omega) rfl (fun b3823 b3824 => ?_))
  refine wl_of hX hb cL_964 (rw_aload_n (pc' := 965) (v := .ref 0) rfl rfl rfl ?_)
  refine wl_of hX hb cL_965 (rw_iload (pc' := 967) (z := i) rfl rfl ?_)
  refine wl_of hX hb cL_967 (rw_iconst (pc' := 968) rfl ?_)
  refine wl_of hX hb cL_968 (rw_iadd (pc' := 969) rfl ?_)
  refine wl_of hX hb cL_969 (xa_I (so := 0) (pc' := 970) (a := 0) hW g0 (wsh_s _) (by omega) (wty_s _ _) (by omega) (by omega) rfl (fun b3825 b3826 => ?_))
  obtain ⟨B, tc, tm, cu, dr, C8, e8, d8, n8, g8, ce8, e0, gtc, htc, em, gtm, htm, ecu, gcu, edr, gdr, hcu, hdr, hdec, hded, hsp, hC1, hC2, hcu8, hrb8, hcg8, hmn8, hE, hZ, hn8, hXA, hV8, hSG, ece8, gce8, hcen8, hhdr8, hknn8, -⟩ := hXI
  have hN3 := RB_n3 hrb8
  have hE13 : ∀ h : Nat, h < 24 → 0 ≤ e8 13 h ∧ e8 13 h ≤ 100 := fun k hk => by
    obtain ⟨s, h1, h2, h3⟩ := hcu8.1.2.2.1
    exact ⟨(h3 k hk).1, (h3 k hk).2.1⟩
  have hXW := hXA.1
  have hXN := hXA.2
  have hE0 : e8 0 3 = d8 0 3 ∧ e8 0 0 = d8 0 0 := by
    have h := hE 0 (by decide)
    exact ⟨congrFun h 3, congrFun h 0⟩
  have u3827 := CU_k hcu8
  have h3828 : CY T H cu (d8 0 3) g8 (H cu 17) := ⟨hcg8, rfl⟩
  have h3829 : RY T H m (d8 0 3) g8 (H m 32) := ⟨hmn8, rfl⟩
  obtain ⟨t9, ht9⟩ : ∃ t : Int, t = H x 9 := ⟨_, rfl⟩
  obtain ⟨y9, hy9⟩ : ∃ y : Int, y = H 0 ((i + 2).toNat) := ⟨_, rfl⟩
  obtain ⟨r3830, q3831, g3832⟩ := hW.ref gx (t' := 6) (n := 13) (j := 2) (p := 0) (q := 0) rfl (by decide) rfl
  refine wl_of hX hb cL_970 (xc_V (pc' := 973) (r := x) (as := [vI (H 0 ((i + 1).toNat)), vI (H 0 ((i + 2).toNat))]) (st := []) (lm_11_126) rfl rfl (Nat.le_of_ble_eq_true rfl) hW gx sh_1 (by decide) rfl (by decide) (u_109 (e := e8) (d := d8) (n := n8) hW gx ⟨by omega, by omega⟩ ⟨by omega, by omega⟩ ecu gcu q3831 g3832 ece8 gce8 (by assumption) (by assumption) (by omega) (by omega) (by omega) (by omega) hcu8 hcen8 hhdr8) (fun R3833 T3834 H3835 p3836 => ?_))
  obtain ⟨e3837, w3839, f3840, z3841, e3838, b3842, p3843⟩ := p3836
  subst e3837
  subst e3838
  show WL _ _ _ _ 973 [(4, vI i), (3, .ref o), (2, .ref m), (1, .ref x), (0, .ref 0)] [vI z3841] _ H3835
  refine wl_of hX hb cL_973 (rw_pop (pc' := 974) rfl rfl ?_)
  refine wl_of hX hb cL_974 (rw_aload_n (pc' := 975) (v := .ref m) rfl rfl rfl ?_)
  refine wl_of hX hb cL_975 (rw_aload_n (pc' := 976) (v := .ref 0) rfl rfl rfl ?_)
  refine wl_of hX hb cL_976 (rw_iload (pc' := 978) (z := i) rfl rfl ?_)
  refine wl_of hX hb cL_978 (rw_iconst (pc' := 979) rfl ?_)
  refine wl_of hX hb cL_979 (rw_iadd (pc' := 980) rfl ?_)
  have k3847 : H3835 0 ((i + 1).toNat) = H 0 ((i + 1).toNat) := (f3840 0 ((i + 1).toNat) _ g0 (wmem_s rfl))
  refine wl_of hX hb cL_980 (xa_I (so := 0) (pc' := 981) (a := 0) w3839 g0 (wsh_s _) (by omega) (wty_s _ _) (by omega) (by omega) rfl (fun b3845 b3846 => ?_))
  refine wl_of hX hb cL_981 (rw_aload_n (pc' := 982) (v := .ref 0) rfl rfl rfl ?_)
  refine wl_of hX hb cL_982 (rw_iload (pc' := 984) (z := i) rfl rfl ?_)
  refine wl_of hX hb cL_984 (rw_iconst (pc' := 985) rfl ?_)
  refine wl_of hX hb cL_985 (rw_iadd (pc' := 986) rfl ?_)
  have k3850 : H3835 0 ((i + 2).toNat) = H 0 ((i + 2).toNat) := (f3840 0 ((i + 2).toNat) _ g0 (wmem_s rfl))
  refine wl_of hX hb cL_986 (xa_I (so := 0) (pc' := 987) (a := 0) w3839 g0 (wsh_s _) (by omega) (wty_s _ _) (by omega) (by omega) rfl (fun b3848 b3849 => ?_))
  have k3851 : wKI H3835 m = wKI H m := (wKI_fr hW gm f3840 rfl)
  have k3852 : H3835 x 9 = H x 9 := (f3840 x 9 _ gx rfl)
  have k3853 : H3835 m 6 = H m 6 := (f3840 m 6 _ gm rfl)
  have k3854 : H3835 x 11 = H x 11 := (f3840 x 11 _ gx rfl)
  have k3855 : H3835 m 13 = H m 13 := (f3840 m 13 _ gm rfl)
  have k3856 : H3835 x 8 = H x 8 := (f3840 x 8 _ gx rfl)
  have k3857 : H3835 m 3 = H m 3 := (f3840 m 3 _ gm rfl)
  rw [show H3835 0 ((i + 2).toNat) = H 0 ((i + 2).toNat) by omega]
  rw [show H3835 0 ((i + 1).toNat) = H 0 ((i + 1).toNat) by omega]
  have h3858 : RB T H3835 m e8 d8 := (RB_fr hW gm f3840 rfl hrb8)
  have h3859 : KNN T H3835 m e8 d8 := (KNN_fr hW gm f3840 rfl hknn8)
  refine wl_of hX hb cL_987 (xc_V (pc' := 990) (r := m) (as := [vI (H 0 ((i + 1).toNat)), vI (H 0 ((i + 2).toNat))]) (st := []) (lm_11_129) rfl rfl (Nat.le_of_ble_eq_true rfl) w3839 gm sh_42 (by decide) rfl (by decide) (u_259 (e := e8) (d := d8) w3839 gm ⟨by omega, by omega⟩ ⟨by omega, by omega⟩ (by omega) (by assumption) (by assumption) (by assumption) (by assumption) h3858 h3859) (fun R3860 T3861 H3862 p3863 => ?_))
  obtain ⟨e3864, w3866, f3867, z3868, e3865, b3869, p3870⟩ := p3863
  subst e3864
  subst e3865
  obtain ⟨a3871, a3872⟩ := p3870
  show WL _ _ _ _ 990 [(4, vI i), (3, .ref o), (2, .ref m), (1, .ref x), (0, .ref 0)] [vI z3868] _ H3862
  refine wl_of hX hb cL_990 (rw_pop (pc' := 991) rfl rfl ?_)
  refine wl_of hX hb cL_991 (rw_goto (p1 := 1653) (by decide) ?_)
  have k3873 : H3862 x 9 = H3835 x 9 := (f3867 x 9 _ gx rfl)
  have k3874 : H3862 m 6 = H3835 m 6 := (f3867 m 6 _ gm rfl)
  have k3875 : H3862 x 11 = H3835 x 11 := (f3867 x 11 _ gx rfl)
  have k3876 : H3862 m 13 = H3835 m 13 := (f3867 m 13 _ gm rfl)
  have k3877 : H3862 x 8 = H3835 x 8 := (f3867 x 8 _ gx rfl)
  have k3878 : H3862 m 3 = H3835 m 3 := (f3867 m 3 _ gm rfl)
  have k3879 : H3862 x 0 = H x 0 := ((f3867 x 0 _ gx rfl).trans (f3840 x 0 _ gx rfl))
  have q3880 : H3862 x 0 = (tc : Int) := k3879.trans e0
  have k3881 : H3862 m 5 = H m 5 := ((f3867 m 5 _ gm rfl).trans (f3840 m 5 _ gm rfl))
  have q3882 : H3862 m 5 = (tm : Int) := k3881.trans em
  have k3883 : H3862 x 6 = H x 6 := ((f3867 x 6 _ gx rfl).trans (f3840 x 6 _ gx rfl))
  have q3884 : H3862 x 6 = (cu : Int) := k3883.trans ecu
  have k3885 : H3862 x 7 = H x 7 := ((f3867 x 7 _ gx rfl).trans (f3840 x 7 _ gx rfl))
  have q3886 : H3862 x 7 = (dr : Int) := k3885.trans edr
  have h3887 : CEN T H3862 ce8 e8 d8 := (CEN_fr w3839 gce8 f3867 rfl p3843)
  have h3888 : TP T H3862 tc B := (TP_fr w3839 gtc f3867 rfl (TP_fr hW gtc f3840 rfl htc))
  have h3889 : TM T H3862 tm B := (TM_fr w3839 gtm f3867 rfl (TM_fr hW gtm f3840 rfl htm))
  have h3890 : DD T H3862 cu  := (DD_fr w3839 gcu f3867 rfl (DD_fr hW gcu f3840 rfl hcu))
  have h3891 : DD T H3862 dr  := (DD_fr w3839 gdr f3867 rfl (DD_fr hW gdr f3840 rfl hdr))
  have h3892 : DE T H3862 cu  := (DE_fr w3839 gcu f3867 rfl (DE_fr hW gcu f3840 rfl hdec))
  have h3893 : DE T H3862 dr  := (DE_fr w3839 gdr f3867 rfl (DE_fr hW gdr f3840 rfl hded))
  have h3894 : SP T H3862 x C8 := (SP_fr w3839 gx f3867 rfl (SP_fr hW gx f3840 rfl hsp))
  have h3895 : CU T H3862 cu e8 d8 n8 := (CU_fr w3839 gcu f3867 rfl (CU_fr hW gcu f3840 rfl hcu8))
  have h3896 : CY T H3862 cu (d8 0 3) g8 (H cu 17) := (CY_fr w3839 gcu f3867 rfl (CY_fr hW gcu f3840 rfl h3828))
  have k3897 : H3862 x 3 = H x 3 := ((f3867 x 3 _ gx rfl).trans (f3840 x 3 _ gx rfl))
  have q3898 : H3862 x 3 = (ce8 : Int) := k3897.trans ece8
  have h3899 : HDR T H3862 ce8  := (HDR_fr w3839 gce8 f3867 rfl (HDR_fr hW gce8 f3840 rfl hhdr8))
  have h3900 : RY T H3862 m (d8 0 3) g8 (H m 32) := (RY_fr w3839 gm f3867 rfl (RY_fr hW gm f3840 rfl h3829))
  have h3901 : RB T H3862 m e8 d8 := (RB_fr w3839 gm f3867 rfl h3858)
  exact WL.loc hX (by simp) (next T H3862 ⟨⟨w3866, g0, gx, gm, go, by omega, by omega⟩, ⟨_, tc, tm, cu, dr, _, _, _, _, _, ce8, q3880, gtc, h3888, q3882, gtm, h3889, q3884, gcu, q3886, gdr, h3890, h3891, h3892, h3893, h3894, hC1, hC2, h3895, h3901, (h3896).1, (h3900).1, hE, hZ, (by omega), (by assumption), (by omega), (by first | assumption | exact SG_0), q3898, gce8, h3887, h3899, a3872, gm⟩, by omega, by omega⟩ (by omega) (by omega))
set_option maxHeartbeats 4000000 in
theorem wl_c26 {kt : Nat → Option mc_E} {CB SB : Nat} {X : mc_S → Prop} {T : wq_T} {H : wq_H} {Len x m o : Nat} {i : Int} (hX : wlX kt CB SB X) (hb : T.2.1 ≤ CB ∧ T.2.2.1 ≤ SB) (hI : wlJ Len x m o T H) (hL : Len ≤ 3072) (hi : 0 ≤ i ∧ i + 6 ≤ Len) (hb2 : T.2.1 + 20 ≤ CB ∧ T.2.2.1 + 500 ≤ SB)  (next : ∀ T' H', wlJ Len x m o T' H' → T'.2.1 ≤ T.2.1 + 20 → T'.2.2.1 ≤ T.2.2.1 + 500 → WL kt CB SB X 1653 (wlL i x m o) [] T' H') : WL kt CB SB X 994 (wlL i x m o) [] T H := by
  obtain ⟨⟨hW, g0, gx, gm, go, hK, hr⟩, hXI, hY1, hY2⟩ := hI
  refine wl_of hX hb cL_994 (rw_aload_n (pc' := 995) (v := .ref x) rfl rfl rfl ?_)
  refine wl_of hX hb cL_995 (rw_aload_n (pc' := 996) (v := .ref 0) rfl rfl rfl ?_)
  refine wl_of hX hb cL_996 (rw_iload (pc' := 998) (z := i) rfl rfl ?_)
  refine wl_of hX hb cL_998 (rw_iconst (pc' := 999) rfl ?_)
  refine wl_of hX hb cL_999 (rw_iadd (pc' := 1000) rfl ?_)
  refine wl_of hX hb cL_1000 (xa_I (so := 0) (pc' := 1001) (a := 0) hW g0 (wsh_s _) (by omega) (wty_s _ _) (by omega) (by omega) rfl (fun b3902 b3903 => ?_))
  obtain ⟨B, tc, tm, cu, dr, C8, e8, d8, n8, g8, ce8, e0, gtc, htc, em, gtm, htm, ecu, gcu, edr, gdr, hcu, hdr, hdec, hded, hsp, hC1, hC2, hcu8, hrb8, hcg8, hmn8, hE, hZ, hn8, hXA, hV8, hSG, ece8, gce8, hcen8, hhdr8, hknn8, -⟩ := hXI
  have hN3 := RB_n3 hrb8
  have hE13 : ∀ h : Nat, h < 24 → 0 ≤ e8 13 h ∧ e8 13 h ≤ 100 := fun k hk => by
    obtain ⟨s, h1, h2, h3⟩ := hcu8.1.2.2.1
    exact ⟨(h3 k hk).1, (h3 k hk).2.1⟩
  have hXW := hXA.1
  have hXN := hXA.2
  have hE0 : e8 0 3 = d8 0 3 ∧ e8 0 0 = d8 0 0 := by
    have h := hE 0 (by decide)
    exact ⟨congrFun h 3, congrFun h 0⟩
  have u3904 := CU_k hcu8
  have h3905 : CY T H cu (d8 0 3) g8 (H cu 17) := ⟨hcg8, rfl⟩
  have h3906 : RY T H m (d8 0 3) g8 (H m 32) := ⟨hmn8, rfl⟩
  obtain ⟨t9, ht9⟩ : ∃ t : Int, t = H x 9 := ⟨_, rfl⟩
  obtain ⟨y9, hy9⟩ : ∃ y : Int, y = H 0 ((i + 1).toNat) := ⟨_, rfl⟩
  obtain ⟨r3907, q3908, g3909⟩ := hW.ref gx (t' := 6) (n := 13) (j := 2) (p := 0) (q := 0) rfl (by decide) rfl
  refine wl_of hX hb cL_1001 (xc_V (pc' := 1004) (r := x) (as := [vI (H 0 ((i + 1).toNat))]) (st := []) (lm_11_130) rfl rfl (Nat.le_of_ble_eq_true rfl) hW gx sh_1 (by decide) rfl (by decide) (u_112 (e := e8) (d := d8) (n := n8) hW gx ⟨by omega, by omega⟩ ecu gcu q3908 g3909 ece8 gce8 (by assumption) (by assumption) (by omega) (by omega) (by omega) (by omega) hcu8 hcen8 hhdr8) (fun R3910 T3911 H3912 p3913 => ?_))
  obtain ⟨e3914, w3916, f3917, z3918, e3915, b3919, p3920⟩ := p3913
  subst e3914
  subst e3915
  show WL _ _ _ _ 1004 [(4, vI i), (3, .ref o), (2, .ref m), (1, .ref x), (0, .ref 0)] [vL z3918] _ H3912
  refine wl_of hX hb cL_1004 (rw_pop2 (pc' := 1005) rfl rfl ?_)
  refine wl_of hX hb cL_1005 (rw_aload_n (pc' := 1006) (v := .ref m) rfl rfl rfl ?_)
  refine wl_of hX hb cL_1006 (rw_aload_n (pc' := 1007) (v := .ref 0) rfl rfl rfl ?_)
  refine wl_of hX hb cL_1007 (rw_iload (pc' := 1009) (z := i) rfl rfl ?_)
  refine wl_of hX hb cL_1009 (rw_iconst (pc' := 1010) rfl ?_)
  refine wl_of hX hb cL_1010 (rw_iadd (pc' := 1011) rfl ?_)
  have k3924 : H3912 0 ((i + 1).toNat) = H 0 ((i + 1).toNat) := (f3917 0 ((i + 1).toNat) _ g0 (wmem_s rfl))
  refine wl_of hX hb cL_1011 (xa_I (so := 0) (pc' := 1012) (a := 0) w3916 g0 (wsh_s _) (by omega) (wty_s _ _) (by omega) (by omega) rfl (fun b3922 b3923 => ?_))
  have k3925 : wKI H3912 m = wKI H m := (wKI_fr hW gm f3917 rfl)
  have k3926 : H3912 x 9 = H x 9 := (f3917 x 9 _ gx rfl)
  have k3927 : H3912 m 6 = H m 6 := (f3917 m 6 _ gm rfl)
  have k3928 : H3912 x 11 = H x 11 := (f3917 x 11 _ gx rfl)
  have k3929 : H3912 m 13 = H m 13 := (f3917 m 13 _ gm rfl)
  have k3930 : H3912 x 8 = H x 8 := (f3917 x 8 _ gx rfl)
  have k3931 : H3912 m 3 = H m 3 := (f3917 m 3 _ gm rfl)
  rw [show H3912 0 ((i + 1).toNat) = H 0 ((i + 1).toNat) by omega]
  have h3932 : RB T H3912 m e8 d8 := (RB_fr hW gm f3917 rfl hrb8)
  have h3933 : KNN T H3912 m e8 d8 := (KNN_fr hW gm f3917 rfl hknn8)
  refine wl_of hX hb cL_1012 (xc_V (pc' := 1015) (r := m) (as := [vI (H 0 ((i + 1).toNat))]) (st := []) (lm_11_134) rfl rfl (Nat.le_of_ble_eq_true rfl) w3916 gm sh_42 (by decide) rfl (by decide) (u_260 (e := e8) (d := d8) w3916 gm ⟨by omega, by omega⟩ (by omega) (by assumption) (by assumption) (by assumption) (by assumption) h3932 h3933) (fun R3934 T3935 H3936 p3937 => ?_))
  obtain ⟨e3938, w3940, f3941, z3942, e3939, b3943, p3944⟩ := p3937
  subst e3938
  subst e3939
  obtain ⟨a3945, a3946⟩ := p3944
  show WL _ _ _ _ 1015 [(4, vI i), (3, .ref o), (2, .ref m), (1, .ref x), (0, .ref 0)] [vL z3942] _ H3936
  refine wl_of hX hb cL_1015 (rw_pop2 (pc' := 1016) rfl rfl ?_)
  refine wl_of hX hb cL_1016 (rw_goto (p1 := 1653) (by decide) ?_)
  have k3947 : H3936 x 9 = H3912 x 9 := (f3941 x 9 _ gx rfl)
  have k3948 : H3936 m 6 = H3912 m 6 := (f3941 m 6 _ gm rfl)
  have k3949 : H3936 x 11 = H3912 x 11 := (f3941 x 11 _ gx rfl)
  have k3950 : H3936 m 13 = H3912 m 13 := (f3941 m 13 _ gm rfl)
  have k3951 : H3936 x 8 = H3912 x 8 := (f3941 x 8 _ gx rfl)
  have k3952 : H3936 m 3 = H3912 m 3 := (f3941 m 3 _ gm rfl)
  have k3953 : H3936 x 0 = H x 0 := ((f3941 x 0 _ gx rfl).trans (f3917 x 0 _ gx rfl))
  have q3954 : H3936 x 0 = (tc : Int) := k3953.trans e0
  have k3955 : H3936 m 5 = H m 5 := ((f3941 m 5 _ gm rfl).trans (f3917 m 5 _ gm rfl))
  have q3956 : H3936 m 5 = (tm : Int) := k3955.trans em
  have k3957 : H3936 x 6 = H x 6 := ((f3941 x 6 _ gx rfl).trans (f3917 x 6 _ gx rfl))
  have q3958 : H3936 x 6 = (cu : Int) := k3957.trans ecu
  have k3959 : H3936 x 7 = H x 7 := ((f3941 x 7 _ gx rfl).trans (f3917 x 7 _ gx rfl))
  have q3960 : H3936 x 7 = (dr : Int) := k3959.trans edr
  have h3961 : CEN T H3936 ce8 e8 d8 := (CEN_fr w3916 gce8 f3941 rfl p3920)
  have h3962 : TP T H3936 tc B := (TP_fr w3916 gtc f3941 rfl (TP_fr hW gtc f3917 rfl htc))
  have h3963 : TM T H3936 tm B := (TM_fr w3916 gtm f3941 rfl (TM_fr hW gtm f3917 rfl htm))
  have h3964 : DD T H3936 cu  := (DD_fr w3916 gcu f3941 rfl (DD_fr hW gcu f3917 rfl hcu))
  have h3965 : DD T H3936 dr  := (DD_fr w3916 gdr f3941 rfl (DD_fr hW gdr f3917 rfl hdr))
  have h3966 : DE T H3936 cu  := (DE_fr w3916 gcu f3941 rfl (DE_fr hW gcu f3917 rfl hdec))
  have h3967 : DE T H3936 dr  := (DE_fr w3916 gdr f3941 rfl (DE_fr hW gdr f3917 rfl hded))
  have h3968 : SP T H3936 x C8 := (SP_fr w3916 gx f3941 rfl (SP_fr hW gx f3917 rfl hsp))
  have h3969 : CU T H3936 cu e8 d8 n8 := (CU_fr w3916 gcu f3941 rfl (CU_fr hW gcu f3917 rfl hcu8))
  have h3970 : CY T H3936 cu (d8 0 3) g8 (H cu 17) := (CY_fr w3916 gcu f3941 rfl (CY_fr hW gcu f3917 rfl h3905))
  have k3971 : H3936 x 3 = H x 3 := ((f3941 x 3 _ gx rfl).trans (f3917 x 3 _ gx rfl))
  have q3972 : H3936 x 3 = (ce8 : Int) := k3971.trans ece8
  have h3973 : HDR T H3936 ce8  := (HDR_fr w3916 gce8 f3941 rfl (HDR_fr hW gce8 f3917 rfl hhdr8))
  have h3974 : RY T H3936 m (d8 0 3) g8 (H m 32) := (RY_fr w3916 gm f3941 rfl (RY_fr hW gm f3917 rfl h3906))
  have h3975 : RB T H3936 m e8 d8 := (RB_fr w3916 gm f3941 rfl h3932)
  exact WL.loc hX (by simp) (next T H3936 ⟨⟨w3940, g0, gx, gm, go, by omega, by omega⟩, ⟨_, tc, tm, cu, dr, _, _, _, _, _, ce8, q3954, gtc, h3962, q3956, gtm, h3963, q3958, gcu, q3960, gdr, h3964, h3965, h3966, h3967, h3968, hC1, hC2, h3969, h3975, (h3970).1, (h3974).1, hE, hZ, (by omega), (by assumption), (by omega), (by first | assumption | exact SG_0), q3972, gce8, h3961, h3973, a3946, gm⟩, by omega, by omega⟩ (by omega) (by omega))
set_option maxHeartbeats 4000000 in
theorem wl_c27 {kt : Nat → Option mc_E} {CB SB : Nat} {X : mc_S → Prop} {T : wq_T} {H : wq_H} {Len x m o : Nat} {i : Int} (hX : wlX kt CB SB X) (hb : T.2.1 ≤ CB ∧ T.2.2.1 ≤ SB) (hI : wlJ Len x m o T H) (hL : Len ≤ 3072) (hi : 0 ≤ i ∧ i + 6 ≤ Len) (hb2 : T.2.1 + 20 ≤ CB ∧ T.2.2.1 + 500 ≤ SB)  (next : ∀ T' H', wlJ Len x m o T' H' → T'.2.1 ≤ T.2.1 + 20 → T'.2.2.1 ≤ T.2.2.1 + 500 → WL kt CB SB X 1653 (wlL i x m o) [] T' H') : WL kt CB SB X 1019 (wlL i x m o) [] T H := by
  obtain ⟨⟨hW, g0, gx, gm, go, hK, hr⟩, hXI, hY1, hY2⟩ := hI
  refine wl_of hX hb cL_1019 (rw_aload_n (pc' := 1020) (v := .ref x) rfl rfl rfl ?_)
  refine wl_of hX hb cL_1020 (rw_aload_n (pc' := 1021) (v := .ref 0) rfl rfl rfl ?_)
  refine wl_of hX hb cL_1021 (rw_iload (pc' := 1023) (z := i) rfl rfl ?_)
  refine wl_of hX hb cL_1023 (rw_iconst (pc' := 1024) rfl ?_)
  refine wl_of hX hb cL_1024 (rw_iadd (pc' := 1025) rfl ?_)
  refine wl_of hX hb cL_1025 (xa_I (so := 0) (pc' := 1026) (a := 0) hW g0 (wsh_s _) (by omega) (wty_s _ _) (by omega) (by omega) rfl (fun b3976 b3977 => ?_))
  refine wl_of hX hb cL_1026 (rw_aload_n (pc' := 1027) (v := .ref 0) rfl rfl rfl ?_)
  refine wl_of hX hb cL_1027 (rw_iload (pc' := 1029) (z := i) rfl rfl ?_)
  refine wl_of hX hb cL_1029 (rw_iconst (pc' := 1030) rfl ?_)
  refine wl_of hX hb cL_1030 (rw_iadd (pc' := 1031) rfl ?_)
  refine wl_of hX hb cL_1031 (xa_I (so := 0) (pc' := 1032) (a := 0) hW g0 (wsh_s _) (by omega) (wty_s _ _) (by omega) (by omega) rfl (fun b3978 b3979 => ?_))
  obtain ⟨B, tc, tm, cu, dr, C8, e8, d8, n8, g8, ce8, e0, gtc, htc, em, gtm, htm, ecu, gcu, edr, gdr, hcu, hdr, hdec, hded, hsp, hC1, hC2, hcu8, hrb8, hcg8, hmn8, hE, hZ, hn8, hXA, hV8, hSG, ece8, gce8, hcen8, hhdr8, hknn8, -⟩ := hXI
  have hN3 := RB_n3 hrb8
  have hE13 : ∀ h : Nat, h < 24 → 0 ≤ e8 13 h ∧ e8 13 h ≤ 100 := fun k hk => by
    obtain ⟨s, h1, h2, h3⟩ := hcu8.1.2.2.1
    exact ⟨(h3 k hk).1, (h3 k hk).2.1⟩
  have hXW := hXA.1
  have hXN := hXA.2
  have hE0 : e8 0 3 = d8 0 3 ∧ e8 0 0 = d8 0 0 := by
    have h := hE 0 (by decide)
    exact ⟨congrFun h 3, congrFun h 0⟩
  have u3980 := CU_k hcu8
  have h3981 : CY T H cu (d8 0 3) g8 (H cu 17) := ⟨hcg8, rfl⟩
  have h3982 : RY T H m (d8 0 3) g8 (H m 32) := ⟨hmn8, rfl⟩
  obtain ⟨t9, ht9⟩ : ∃ t : Int, t = H x 9 := ⟨_, rfl⟩
  obtain ⟨y9, hy9⟩ : ∃ y : Int, y = H 0 ((i + 2).toNat) := ⟨_, rfl⟩
  obtain ⟨r3983, q3984, g3985⟩ := hW.ref gx (t' := 6) (n := 13) (j := 2) (p := 0) (q := 0) rfl (by decide) rfl
  refine wl_of hX hb cL_1032 (xc_V (pc' := 1035) (r := x) (as := [vI (H 0 ((i + 1).toNat)), vI (H 0 ((i + 2).toNat))]) (st := []) (lm_11_135) rfl rfl (Nat.le_of_ble_eq_true rfl) hW gx sh_1 (by decide) rfl (by decide) (u_114 (e := e8) (d := d8) (n := n8) hW gx ⟨by omega, by omega⟩ ⟨by omega, by omega⟩ ecu gcu q3984 g3985 ece8 gce8 (by assumption) (by assumption) (by omega) (by omega) (by omega) (by omega) hcu8 hcen8 hhdr8) (fun R3986 T3987 H3988 p3989 => ?_))
  obtain ⟨e3990, w3992, f3993, z3994, e3991, b3995, p3996⟩ := p3989
  subst e3990
  subst e3991
  show WL _ _ _ _ 1035 [(4, vI i), (3, .ref o), (2, .ref m), (1, .ref x), (0, .ref 0)] [vI z3994] _ H3988
  refine wl_of hX hb cL_1035 (rw_pop (pc' := 1036) rfl rfl ?_)
  refine wl_of hX hb cL_1036 (rw_aload_n (pc' := 1037) (v := .ref m) rfl rfl rfl ?_)
  refine wl_of hX hb cL_1037 (rw_aload_n (pc' := 1038) (v := .ref 0) rfl rfl rfl ?_)
  refine wl_of hX hb cL_1038 (rw_iload (pc' := 1040) (z := i) rfl rfl ?_)
  refine wl_of hX hb cL_1040 (rw_iconst (pc' := 1041) rfl ?_)
  refine wl_of hX hb cL_1041 (rw_iadd (pc' := 1042) rfl ?_)
  have k4000 : H3988 0 ((i + 1).toNat) = H 0 ((i + 1).toNat) := (f3993 0 ((i + 1).toNat) _ g0 (wmem_s rfl))
  refine wl_of hX hb cL_1042 (xa_I (so := 0) (pc' := 1043) (a := 0) w3992 g0 (wsh_s _) (by omega) (wty_s _ _) (by omega) (by omega) rfl (fun b3998 b3999 => ?_))
  refine wl_of hX hb cL_1043 (rw_aload_n (pc' := 1044) (v := .ref 0) rfl rfl rfl ?_)
  refine wl_of hX hb cL_1044 (rw_iload (pc' := 1046) (z := i) rfl rfl ?_)
  refine wl_of hX hb cL_1046 (rw_iconst (pc' := 1047) rfl ?_)
  refine wl_of hX hb cL_1047 (rw_iadd (pc' := 1048) rfl ?_)
  have k4003 : H3988 0 ((i + 2).toNat) = H 0 ((i + 2).toNat) := (f3993 0 ((i + 2).toNat) _ g0 (wmem_s rfl))
  refine wl_of hX hb cL_1048 (xa_I (so := 0) (pc' := 1049) (a := 0) w3992 g0 (wsh_s _) (by omega) (wty_s _ _) (by omega) (by omega) rfl (fun b4001 b4002 => ?_))
  have k4004 : wKI H3988 m = wKI H m := (wKI_fr hW gm f3993 rfl)
  have k4005 : H3988 x 9 = H x 9 := (f3993 x 9 _ gx rfl)
  have k4006 : H3988 m 6 = H m 6 := (f3993 m 6 _ gm rfl)
  have k4007 : H3988 x 11 = H x 11 := (f3993 x 11 _ gx rfl)
  have k4008 : H3988 m 13 = H m 13 := (f3993 m 13 _ gm rfl)
  have k4009 : H3988 x 8 = H x 8 := (f3993 x 8 _ gx rfl)
  have k4010 : H3988 m 3 = H m 3 := (f3993 m 3 _ gm rfl)
  rw [show H3988 0 ((i + 2).toNat) = H 0 ((i + 2).toNat) by omega]
  rw [show H3988 0 ((i + 1).toNat) = H 0 ((i + 1).toNat) by omega]
  have h4011 : RB T H3988 m e8 d8 := (RB_fr hW gm f3993 rfl hrb8)
  have h4012 : KNN T H3988 m e8 d8 := (KNN_fr hW gm f3993 rfl hknn8)
  refine wl_of hX hb cL_1049 (xc_V (pc' := 1052) (r := m) (as := [vI (H 0 ((i + 1).toNat)), vI (H 0 ((i + 2).toNat))]) (st := []) (lm_11_138) rfl rfl (Nat.le_of_ble_eq_true rfl) w3992 gm sh_42 (by decide) rfl (by decide) (u_261 (e := e8) (d := d8) w3992 gm ⟨by omega, by omega⟩ ⟨by omega, by omega⟩ (by omega) (by assumption) (by assumption) (by assumption) (by assumption) h4011 h4012) (fun R4013 T4014 H4015 p4016 => ?_))
  obtain ⟨e4017, w4019, f4020, z4021, e4018, b4022, p4023⟩ := p4016
  subst e4017
  subst e4018
  obtain ⟨a4024, a4025⟩ := p4023
  show WL _ _ _ _ 1052 [(4, vI i), (3, .ref o), (2, .ref m), (1, .ref x), (0, .ref 0)] [vI z4021] _ H4015
  refine wl_of hX hb cL_1052 (rw_pop (pc' := 1053) rfl rfl ?_)
  refine wl_of hX hb cL_1053 (rw_goto (p1 := 1653) (by decide) ?_)
  have k4026 : H4015 x 9 = H3988 x 9 := (f4020 x 9 _ gx rfl)
  have k4027 : H4015 m 6 = H3988 m 6 := (f4020 m 6 _ gm rfl)
  have k4028 : H4015 x 11 = H3988 x 11 := (f4020 x 11 _ gx rfl)
  have k4029 : H4015 m 13 = H3988 m 13 := (f4020 m 13 _ gm rfl)
  have k4030 : H4015 x 8 = H3988 x 8 := (f4020 x 8 _ gx rfl)
  have k4031 : H4015 m 3 = H3988 m 3 := (f4020 m 3 _ gm rfl)
  have k4032 : H4015 x 0 = H x 0 := ((f4020 x 0 _ gx rfl).trans (f3993 x 0 _ gx rfl))
  have q4033 : H4015 x 0 = (tc : Int) := k4032.trans e0
  have k4034 : H4015 m 5 = H m 5 := ((f4020 m 5 _ gm rfl).trans (f3993 m 5 _ gm rfl))
  have q4035 : H4015 m 5 = (tm : Int) := k4034.trans em
  have k4036 : H4015 x 6 = H x 6 := ((f4020 x 6 _ gx rfl).trans (f3993 x 6 _ gx rfl))
  have q4037 : H4015 x 6 = (cu : Int) := k4036.trans ecu
  have k4038 : H4015 x 7 = H x 7 := ((f4020 x 7 _ gx rfl).trans (f3993 x 7 _ gx rfl))
  have q4039 : H4015 x 7 = (dr : Int) := k4038.trans edr
  have h4040 : CEN T H4015 ce8 e8 d8 := (CEN_fr w3992 gce8 f4020 rfl p3996)
  have h4041 : TP T H4015 tc B := (TP_fr w3992 gtc f4020 rfl (TP_fr hW gtc f3993 rfl htc))
  have h4042 : TM T H4015 tm B := (TM_fr w3992 gtm f4020 rfl (TM_fr hW gtm f3993 rfl htm))
  have h4043 : DD T H4015 cu  := (DD_fr w3992 gcu f4020 rfl (DD_fr hW gcu f3993 rfl hcu))
  have h4044 : DD T H4015 dr  := (DD_fr w3992 gdr f4020 rfl (DD_fr hW gdr f3993 rfl hdr))
  have h4045 : DE T H4015 cu  := (DE_fr w3992 gcu f4020 rfl (DE_fr hW gcu f3993 rfl hdec))
  have h4046 : DE T H4015 dr  := (DE_fr w3992 gdr f4020 rfl (DE_fr hW gdr f3993 rfl hded))
  have h4047 : SP T H4015 x C8 := (SP_fr w3992 gx f4020 rfl (SP_fr hW gx f3993 rfl hsp))
  have h4048 : CU T H4015 cu e8 d8 n8 := (CU_fr w3992 gcu f4020 rfl (CU_fr hW gcu f3993 rfl hcu8))
  have h4049 : CY T H4015 cu (d8 0 3) g8 (H cu 17) := (CY_fr w3992 gcu f4020 rfl (CY_fr hW gcu f3993 rfl h3981))
  have k4050 : H4015 x 3 = H x 3 := ((f4020 x 3 _ gx rfl).trans (f3993 x 3 _ gx rfl))
  have q4051 : H4015 x 3 = (ce8 : Int) := k4050.trans ece8
  have h4052 : HDR T H4015 ce8  := (HDR_fr w3992 gce8 f4020 rfl (HDR_fr hW gce8 f3993 rfl hhdr8))
  have h4053 : RY T H4015 m (d8 0 3) g8 (H m 32) := (RY_fr w3992 gm f4020 rfl (RY_fr hW gm f3993 rfl h3982))
  have h4054 : RB T H4015 m e8 d8 := (RB_fr w3992 gm f4020 rfl h4011)
  exact WL.loc hX (by simp) (next T H4015 ⟨⟨w4019, g0, gx, gm, go, by omega, by omega⟩, ⟨_, tc, tm, cu, dr, _, _, _, _, _, ce8, q4033, gtc, h4041, q4035, gtm, h4042, q4037, gcu, q4039, gdr, h4043, h4044, h4045, h4046, h4047, hC1, hC2, h4048, h4054, (h4049).1, (h4053).1, hE, hZ, (by omega), (by assumption), (by omega), (by first | assumption | exact SG_0), q4051, gce8, h4040, h4052, a4025, gm⟩, by omega, by omega⟩ (by omega) (by omega))
set_option maxHeartbeats 4000000 in
theorem wl_c28 {kt : Nat → Option mc_E} {CB SB : Nat} {X : mc_S → Prop} {T : wq_T} {H : wq_H} {Len x m o : Nat} {i : Int} (hX : wlX kt CB SB X) (hb : T.2.1 ≤ CB ∧ T.2.2.1 ≤ SB) (hI : wlJ Len x m o T H) (hL : Len ≤ 3072) (hi : 0 ≤ i ∧ i + 6 ≤ Len) (hb2 : T.2.1 + 20 ≤ CB ∧ T.2.2.1 + 500 ≤ SB)  (next : ∀ T' H', wlJ Len x m o T' H' → T'.2.1 ≤ T.2.1 + 20 → T'.2.2.1 ≤ T.2.2.1 + 500 → WL kt CB SB X 1653 (wlL i x m o) [] T' H') : WL kt CB SB X 1056 (wlL i x m o) [] T H := by
  obtain ⟨⟨hW, g0, gx, gm, go, hK, hr⟩, hXI, hY1, hY2⟩ := hI
  refine wl_of hX hb cL_1056 (rw_aload_n (pc' := 1057) (v := .ref x) rfl rfl rfl ?_)
  refine wl_of hX hb cL_1057 (rw_aload_n (pc' := 1058) (v := .ref 0) rfl rfl rfl ?_)
  refine wl_of hX hb cL_1058 (rw_iload (pc' := 1060) (z := i) rfl rfl ?_)
  refine wl_of hX hb cL_1060 (rw_iconst (pc' := 1061) rfl ?_)
  refine wl_of hX hb cL_1061 (rw_iadd (pc' := 1062) rfl ?_)
  refine wl_of hX hb cL_1062 (xa_I (so := 0) (pc' := 1063) (a := 0) hW g0 (wsh_s _) (by omega) (wty_s _ _) (by omega) (by omega) rfl (fun b4055 b4056 => ?_))
  refine wl_of hX hb cL_1063 (rw_aload_n (pc' := 1064) (v := .ref 0) rfl rfl rfl ?_)
  refine wl_of hX hb cL_1064 (rw_iload (pc' := 1066) (z := i) rfl rfl ?_)
  refine wl_of hX hb cL_1066 (rw_iconst (pc' := 1067) rfl ?_)
  refine wl_of hX hb cL_1067 (rw_iadd (pc' := 1068) rfl ?_)
  refine wl_of hX hb cL_1068 (xa_I (so := 0) (pc' := 1069) (a := 0) hW g0 (wsh_s _) (by omega) (wty_s _ _) (by omega) (by omega) rfl (fun b4057 b4058 => ?_))
  refine wl_of hX hb cL_1069 (rw_if_eq (p1 := 1076) (p2 := 1072) (by decide) rfl ⟨by omega, by omega⟩ (fun c4059 => ?_) (fun c4059 => ?_))
  · refine wl_of hX hb cL_1076 (rw_iconst (pc' := 1077) rfl ?_)
    obtain ⟨B, tc, tm, cu, dr, C8, e8, d8, n8, g8, ce8, e0, gtc, htc, em, gtm, htm, ecu, gcu, edr, gdr, hcu, hdr, hdec, hded, hsp, hC1, hC2, hcu8, hrb8, hcg8, hmn8, hE, hZ, hn8, hXA, hV8, hSG, ece8, gce8, hcen8, hhdr8, hknn8, -⟩ := hXI
    have hN3 := RB_n3 hrb8
    have hE13 : ∀ h : Nat, h < 24 → 0 ≤ e8 13 h ∧ e8 13 h ≤ 100 := fun k hk => by
      obtain ⟨s, h1, h2, h3⟩ := hcu8.1.2.2.1
      exact ⟨(h3 k hk).1, (h3 k hk).2.1⟩
    have hXW := hXA.1
    have hXN := hXA.2
    have hE0 : e8 0 3 = d8 0 3 ∧ e8 0 0 = d8 0 0 := by
      have h := hE 0 (by decide)
      exact ⟨congrFun h 3, congrFun h 0⟩
    have u4060 := CU_k hcu8
    have h4061 : CY T H cu (d8 0 3) g8 (H cu 17) := ⟨hcg8, rfl⟩
    have h4062 : RY T H m (d8 0 3) g8 (H m 32) := ⟨hmn8, rfl⟩
    obtain ⟨t9, ht9⟩ : ∃ t : Int, t = H x 9 := ⟨_, rfl⟩
    obtain ⟨y9, hy9⟩ : ∃ y : Int, y = 0 := ⟨_, rfl⟩
    obtain ⟨r4063, q4064, g4065⟩ := hW.ref gx (t' := 6) (n := 13) (j := 2) (p := 0) (q := 0) rfl (by decide) rfl
    refine wl_of hX hb cL_1077 (xc_V (pc' := 1080) (r := x) (as := [vI (H 0 ((i + 1).toNat)), vI 0]) (st := []) (lm_11_139) rfl rfl (Nat.le_of_ble_eq_true rfl) hW gx sh_1 (by decide) rfl (by decide) (u_117 (e := e8) (d := d8) (n := n8) hW gx ⟨by omega, by omega⟩ ⟨by decide, by decide⟩ ecu gcu q4064 g4065 ece8 gce8 (by assumption) (by assumption) (by omega) (by omega) (by omega) (by omega) hcu8 hcen8 hhdr8) (fun R4066 T4067 H4068 p4069 => ?_))
    obtain ⟨e4070, w4072, f4073, z4074, e4071, b4075, p4076⟩ := p4069
    subst e4070
    subst e4071
    rcases p4076 with ⟨a4077, a4078, a4079⟩ | ⟨a4080, a4081, a4082⟩
    · show WL _ _ _ _ 1080 [(4, vI i), (3, .ref o), (2, .ref m), (1, .ref x), (0, .ref 0)] [vI z4074] _ H4068
      refine wl_of hX hb cL_1080 (rw_aload_n (pc' := 1081) (v := .ref m) rfl rfl rfl ?_)
      refine wl_of hX hb cL_1081 (rw_aload_n (pc' := 1082) (v := .ref 0) rfl rfl rfl ?_)
      refine wl_of hX hb cL_1082 (rw_iload (pc' := 1084) (z := i) rfl rfl ?_)
      refine wl_of hX hb cL_1084 (rw_iconst (pc' := 1085) rfl ?_)
      refine wl_of hX hb cL_1085 (rw_iadd (pc' := 1086) rfl ?_)
      have k4085 : H4068 0 ((i + 1).toNat) = H 0 ((i + 1).toNat) := (f4073 0 ((i + 1).toNat) _ g0 (wmem_s rfl))
      refine wl_of hX hb cL_1086 (xa_I (so := 0) (pc' := 1087) (a := 0) w4072 g0 (wsh_s _) (by omega) (wty_s _ _) (by omega) (by omega) rfl (fun b4083 b4084 => ?_))
      refine wl_of hX hb cL_1087 (rw_aload_n (pc' := 1088) (v := .ref 0) rfl rfl rfl ?_)
      refine wl_of hX hb cL_1088 (rw_iload (pc' := 1090) (z := i) rfl rfl ?_)
      refine wl_of hX hb cL_1090 (rw_iconst (pc' := 1091) rfl ?_)
      refine wl_of hX hb cL_1091 (rw_iadd (pc' := 1092) rfl ?_)
      have k4088 : H4068 0 ((i + 2).toNat) = H 0 ((i + 2).toNat) := (f4073 0 ((i + 2).toNat) _ g0 (wmem_s rfl))
      refine wl_of hX hb cL_1092 (xa_I (so := 0) (pc' := 1093) (a := 0) w4072 g0 (wsh_s _) (by omega) (wty_s _ _) (by omega) (by omega) rfl (fun b4086 b4087 => ?_))
      refine wl_of hX hb cL_1093 (rw_if_eq (p1 := 1100) (p2 := 1096) (by decide) rfl ⟨by omega, by omega⟩ (fun c4089 => ?_) (fun c4089 => ?_))
      · refine wl_of hX hb cL_1100 (rw_iconst (pc' := 1101) rfl ?_)
        have k4090 : wKI H4068 m = wKI H m := (wKI_fr hW gm f4073 rfl)
        have k4091 : H4068 x 9 = H x 9 := (f4073 x 9 _ gx rfl)
        have k4092 : H4068 m 6 = H m 6 := (f4073 m 6 _ gm rfl)
        have k4093 : H4068 x 11 = H x 11 := (f4073 x 11 _ gx rfl)
        have k4094 : H4068 m 13 = H m 13 := (f4073 m 13 _ gm rfl)
        have k4095 : H4068 x 8 = H x 8 := (f4073 x 8 _ gx rfl)
        have k4096 : H4068 m 3 = H m 3 := (f4073 m 3 _ gm rfl)
        rw [show H4068 0 ((i + 1).toNat) = H 0 ((i + 1).toNat) by omega]
        have h4097 : RB T H4068 m e8 d8 := (RB_fr hW gm f4073 rfl hrb8)
        have h4098 : KNN T H4068 m e8 d8 := (KNN_fr hW gm f4073 rfl hknn8)
        refine wl_of hX hb cL_1101 (xc_V (pc' := 1104) (r := m) (as := [vI (H 0 ((i + 1).toNat)), vI 0]) (st := [vI z4074]) (lm_11_142) rfl rfl (Nat.le_of_ble_eq_true rfl) w4072 gm sh_42 (by decide) rfl (by decide) (u_263 (e := e8) (d := d8) w4072 gm ⟨by omega, by omega⟩ ⟨by decide, by decide⟩ (by omega) (by assumption) (by assumption) (by assumption) (by assumption) h4097 h4098) (fun R4099 T4100 H4101 p4102 => ?_))
        obtain ⟨e4103, w4105, f4106, z4107, e4104, b4108, p4109⟩ := p4102
        subst e4103
        subst e4104
        rcases p4109 with ⟨a4110, a4111, a4112, a4113⟩ | ⟨a4114, a4115, a4116, a4117⟩
        · show WL _ _ _ _ 1104 [(4, vI i), (3, .ref o), (2, .ref m), (1, .ref x), (0, .ref 0)] [vI z4107, vI z4074] _ H4101
          refine wl_of hX hb cL_1104 (rw_icmp_eq (p1 := 1653) (p2 := 1107) (by decide) rfl ⟨b4075.1, b4075.2⟩ ⟨b4108.1, b4108.2⟩ (fun c4118 => ?_) (fun c4118 => ?_))
          · have k4119 : H4101 x 9 = H4068 x 9 := (f4106 x 9 _ gx rfl)
            have k4120 : H4101 m 6 = H4068 m 6 := (f4106 m 6 _ gm rfl)
            have k4121 : H4101 x 11 = H4068 x 11 := (f4106 x 11 _ gx rfl)
            have k4122 : H4101 m 13 = H4068 m 13 := (f4106 m 13 _ gm rfl)
            have k4123 : H4101 x 8 = H4068 x 8 := (f4106 x 8 _ gx rfl)
            have k4124 : H4101 m 3 = H4068 m 3 := (f4106 m 3 _ gm rfl)
            have k4125 : H4101 x 0 = H x 0 := ((f4106 x 0 _ gx rfl).trans (f4073 x 0 _ gx rfl))
            have q4126 : H4101 x 0 = (tc : Int) := k4125.trans e0
            have k4127 : H4101 m 5 = H m 5 := ((f4106 m 5 _ gm rfl).trans (f4073 m 5 _ gm rfl))
            have q4128 : H4101 m 5 = (tm : Int) := k4127.trans em
            have k4129 : H4101 x 6 = H x 6 := ((f4106 x 6 _ gx rfl).trans (f4073 x 6 _ gx rfl))
            have q4130 : H4101 x 6 = (cu : Int) := k4129.trans ecu
            have k4131 : H4101 x 7 = H x 7 := ((f4106 x 7 _ gx rfl).trans (f4073 x 7 _ gx rfl))
            have q4132 : H4101 x 7 = (dr : Int) := k4131.trans edr
            have h4133 : CEN T H4101 ce8 e8 d8 := (CEN_fr w4072 gce8 f4106 rfl a4079)
            have h4134 : TP T H4101 tc B := (TP_fr w4072 gtc f4106 rfl (TP_fr hW gtc f4073 rfl htc))
            have h4135 : TM T H4101 tm B := (TM_fr w4072 gtm f4106 rfl (TM_fr hW gtm f4073 rfl htm))
            have h4136 : DD T H4101 cu  := (DD_fr w4072 gcu f4106 rfl (DD_fr hW gcu f4073 rfl hcu))
            have h4137 : DD T H4101 dr  := (DD_fr w4072 gdr f4106 rfl (DD_fr hW gdr f4073 rfl hdr))
            have h4138 : DE T H4101 cu  := (DE_fr w4072 gcu f4106 rfl (DE_fr hW gcu f4073 rfl hdec))
            have h4139 : DE T H4101 dr  := (DE_fr w4072 gdr f4106 rfl (DE_fr hW gdr f4073 rfl hded))
            have h4140 : SP T H4101 x C8 := (SP_fr w4072 gx f4106 rfl (SP_fr hW gx f4073 rfl hsp))
            have h4141 : CU T H4101 cu e8 d8 n8 := (CU_fr w4072 gcu f4106 rfl (CU_fr hW gcu f4073 rfl hcu8))
            have h4142 : CY T H4101 cu (d8 0 3) g8 (H cu 17) := (CY_fr w4072 gcu f4106 rfl (CY_fr hW gcu f4073 rfl h4061))
            have k4143 : H4101 x 3 = H x 3 := ((f4106 x 3 _ gx rfl).trans (f4073 x 3 _ gx rfl))
            have q4144 : H4101 x 3 = (ce8 : Int) := k4143.trans ece8
            have h4145 : HDR T H4101 ce8  := (HDR_fr w4072 gce8 f4106 rfl (HDR_fr hW gce8 f4073 rfl hhdr8))
            have h4146 : RY T H4101 m (d8 0 3) g8 (H m 32) := (RY_fr w4072 gm f4106 rfl (RY_fr hW gm f4073 rfl h4062))
            have h4147 : RB T H4101 m e8 d8 := (RB_fr w4072 gm f4106 rfl h4097)
            exact WL.loc hX (by simp) (next T H4101 ⟨⟨w4105, g0, gx, gm, go, by omega, by omega⟩, ⟨_, tc, tm, cu, dr, _, _, _, _, _, ce8, q4126, gtc, h4134, q4128, gtm, h4135, q4130, gcu, q4132, gdr, h4136, h4137, h4138, h4139, h4140, hC1, hC2, h4141, h4147, (h4142).1, (h4146).1, hE, hZ, (by omega), (by assumption), (by omega), (by first | assumption | exact SG_0), q4144, gce8, h4133, h4145, a4113, gm⟩, by omega, by omega⟩ (by omega) (by omega))
          · exfalso
            omega
        · show WL _ _ _ _ 1104 [(4, vI i), (3, .ref o), (2, .ref m), (1, .ref x), (0, .ref 0)] [vI z4107, vI z4074] _ H4101
          try have _u9 : z4074 = z4107 := XEX_1 (by assumption : XEX _ _ _ _ z4074) (by assumption)
          refine wl_of hX hb cL_1104 (rw_icmp_eq (p1 := 1653) (p2 := 1107) (by decide) rfl ⟨b4075.1, b4075.2⟩ ⟨b4108.1, b4108.2⟩ (fun c4148 => ?_) (fun c4148 => ?_))
          · have k4149 : H4101 x 9 = H4068 x 9 := (f4106 x 9 _ gx rfl)
            have k4150 : H4101 m 6 = H4068 m 6 := (f4106 m 6 _ gm rfl)
            have k4151 : H4101 x 11 = H4068 x 11 := (f4106 x 11 _ gx rfl)
            have k4152 : H4101 m 13 = H4068 m 13 := (f4106 m 13 _ gm rfl)
            have k4153 : H4101 x 8 = H4068 x 8 := (f4106 x 8 _ gx rfl)
            have k4154 : H4101 m 3 = H4068 m 3 := (f4106 m 3 _ gm rfl)
            have k4155 : H4101 x 0 = H x 0 := ((f4106 x 0 _ gx rfl).trans (f4073 x 0 _ gx rfl))
            have q4156 : H4101 x 0 = (tc : Int) := k4155.trans e0
            have k4157 : H4101 m 5 = H m 5 := ((f4106 m 5 _ gm rfl).trans (f4073 m 5 _ gm rfl))
            have q4158 : H4101 m 5 = (tm : Int) := k4157.trans em
            have k4159 : H4101 x 6 = H x 6 := ((f4106 x 6 _ gx rfl).trans (f4073 x 6 _ gx rfl))
            have q4160 : H4101 x 6 = (cu : Int) := k4159.trans ecu
            have k4161 : H4101 x 7 = H x 7 := ((f4106 x 7 _ gx rfl).trans (f4073 x 7 _ gx rfl))
            have q4162 : H4101 x 7 = (dr : Int) := k4161.trans edr
            have h4163 : CEN T H4101 ce8 e8 d8 := (CEN_fr w4072 gce8 f4106 rfl a4079)
            have h4164 : TP T H4101 tc B := (TP_fr w4072 gtc f4106 rfl (TP_fr hW gtc f4073 rfl htc))
            have h4165 : TM T H4101 tm B := (TM_fr w4072 gtm f4106 rfl (TM_fr hW gtm f4073 rfl htm))
            have h4166 : DD T H4101 cu  := (DD_fr w4072 gcu f4106 rfl (DD_fr hW gcu f4073 rfl hcu))
            have h4167 : DD T H4101 dr  := (DD_fr w4072 gdr f4106 rfl (DD_fr hW gdr f4073 rfl hdr))
            have h4168 : DE T H4101 cu  := (DE_fr w4072 gcu f4106 rfl (DE_fr hW gcu f4073 rfl hdec))
            have h4169 : DE T H4101 dr  := (DE_fr w4072 gdr f4106 rfl (DE_fr hW gdr f4073 rfl hded))
            have h4170 : SP T H4101 x C8 := (SP_fr w4072 gx f4106 rfl (SP_fr hW gx f4073 rfl hsp))
            have h4171 : CU T H4101 cu e8 d8 n8 := (CU_fr w4072 gcu f4106 rfl (CU_fr hW gcu f4073 rfl hcu8))
            have h4172 : CY T H4101 cu (d8 0 3) g8 (H cu 17) := (CY_fr w4072 gcu f4106 rfl (CY_fr hW gcu f4073 rfl h4061))
            have k4173 : H4101 x 3 = H x 3 := ((f4106 x 3 _ gx rfl).trans (f4073 x 3 _ gx rfl))
            have q4174 : H4101 x 3 = (ce8 : Int) := k4173.trans ece8
            have h4175 : HDR T H4101 ce8  := (HDR_fr w4072 gce8 f4106 rfl (HDR_fr hW gce8 f4073 rfl hhdr8))
            have h4176 : RY T H4101 m (d8 0 3) g8 (H m 32) := (RY_fr w4072 gm f4106 rfl (RY_fr hW gm f4073 rfl h4062))
            have h4177 : RB T H4101 m e8 d8 := (RB_fr w4072 gm f4106 rfl h4097)
            exact WL.loc hX (by simp) (next T H4101 ⟨⟨w4105, g0, gx, gm, go, by omega, by omega⟩, ⟨_, tc, tm, cu, dr, _, _, _, _, _, ce8, q4156, gtc, h4164, q4158, gtm, h4165, q4160, gcu, q4162, gdr, h4166, h4167, h4168, h4169, h4170, hC1, hC2, h4171, h4177, (h4172).1, (h4176).1, hE, hZ, (by omega), (by assumption), (by omega), (by first | assumption | exact SG_0), q4174, gce8, h4163, h4175, a4117, gm⟩, by omega, by omega⟩ (by omega) (by omega))
          · refine wl_of hX hb cL_1107 (rw_iconst (pc' := 1108) rfl ?_)
            exfalso
            omega
      · exfalso
        omega
    · show WL _ _ _ _ 1080 [(4, vI i), (3, .ref o), (2, .ref m), (1, .ref x), (0, .ref 0)] [vI z4074] _ H4068
      refine wl_of hX hb cL_1080 (rw_aload_n (pc' := 1081) (v := .ref m) rfl rfl rfl ?_)
      refine wl_of hX hb cL_1081 (rw_aload_n (pc' := 1082) (v := .ref 0) rfl rfl rfl ?_)
      refine wl_of hX hb cL_1082 (rw_iload (pc' := 1084) (z := i) rfl rfl ?_)
      refine wl_of hX hb cL_1084 (rw_iconst (pc' := 1085) rfl ?_)
      refine wl_of hX hb cL_1085 (rw_iadd (pc' := 1086) rfl ?_)
      have k4180 : H4068 0 ((i + 1).toNat) = H 0 ((i + 1).toNat) := (f4073 0 ((i + 1).toNat) _ g0 (wmem_s rfl))
      refine wl_of hX hb cL_1086 (xa_I (so := 0) (pc' := 1087) (a := 0) w4072 g0 (wsh_s _) (by omega) (wty_s _ _) (by omega) (by omega) rfl (fun b4178 b4179 => ?_))
      refine wl_of hX hb cL_1087 (rw_aload_n (pc' := 1088) (v := .ref 0) rfl rfl rfl ?_)
      refine wl_of hX hb cL_1088 (rw_iload (pc' := 1090) (z := i) rfl rfl ?_)
      refine wl_of hX hb cL_1090 (rw_iconst (pc' := 1091) rfl ?_)
      refine wl_of hX hb cL_1091 (rw_iadd (pc' := 1092) rfl ?_)
      have k4183 : H4068 0 ((i + 2).toNat) = H 0 ((i + 2).toNat) := (f4073 0 ((i + 2).toNat) _ g0 (wmem_s rfl))
      refine wl_of hX hb cL_1092 (xa_I (so := 0) (pc' := 1093) (a := 0) w4072 g0 (wsh_s _) (by omega) (wty_s _ _) (by omega) (by omega) rfl (fun b4181 b4182 => ?_))
      refine wl_of hX hb cL_1093 (rw_if_eq (p1 := 1100) (p2 := 1096) (by decide) rfl ⟨by omega, by omega⟩ (fun c4184 => ?_) (fun c4184 => ?_))
      · refine wl_of hX hb cL_1100 (rw_iconst (pc' := 1101) rfl ?_)
        have k4185 : wKI H4068 m = wKI H m := (wKI_fr hW gm f4073 rfl)
        have k4186 : H4068 x 9 = H x 9 := (f4073 x 9 _ gx rfl)
        have k4187 : H4068 m 6 = H m 6 := (f4073 m 6 _ gm rfl)
        have k4188 : H4068 x 11 = H x 11 := (f4073 x 11 _ gx rfl)
        have k4189 : H4068 m 13 = H m 13 := (f4073 m 13 _ gm rfl)
        have k4190 : H4068 x 8 = H x 8 := (f4073 x 8 _ gx rfl)
        have k4191 : H4068 m 3 = H m 3 := (f4073 m 3 _ gm rfl)
        rw [show H4068 0 ((i + 1).toNat) = H 0 ((i + 1).toNat) by omega]
        have h4192 : RB T H4068 m e8 d8 := (RB_fr hW gm f4073 rfl hrb8)
        have h4193 : KNN T H4068 m e8 d8 := (KNN_fr hW gm f4073 rfl hknn8)
        refine wl_of hX hb cL_1101 (xc_V (pc' := 1104) (r := m) (as := [vI (H 0 ((i + 1).toNat)), vI 0]) (st := [vI z4074]) (lm_11_142) rfl rfl (Nat.le_of_ble_eq_true rfl) w4072 gm sh_42 (by decide) rfl (by decide) (u_263 (e := e8) (d := d8) w4072 gm ⟨by omega, by omega⟩ ⟨by decide, by decide⟩ (by omega) (by assumption) (by assumption) (by assumption) (by assumption) h4192 h4193) (fun R4194 T4195 H4196 p4197 => ?_))
        obtain ⟨e4198, w4200, f4201, z4202, e4199, b4203, p4204⟩ := p4197
        subst e4198
        subst e4199
        rcases p4204 with ⟨a4205, a4206, a4207, a4208⟩ | ⟨a4209, a4210, a4211, a4212⟩
        · show WL _ _ _ _ 1104 [(4, vI i), (3, .ref o), (2, .ref m), (1, .ref x), (0, .ref 0)] [vI z4202, vI z4074] _ H4196
          refine wl_of hX hb cL_1104 (rw_icmp_eq (p1 := 1653) (p2 := 1107) (by decide) rfl ⟨b4075.1, b4075.2⟩ ⟨b4203.1, b4203.2⟩ (fun c4213 => ?_) (fun c4213 => ?_))
          · have k4214 : H4196 x 9 = H4068 x 9 := (f4201 x 9 _ gx rfl)
            have k4215 : H4196 m 6 = H4068 m 6 := (f4201 m 6 _ gm rfl)
            have k4216 : H4196 x 11 = H4068 x 11 := (f4201 x 11 _ gx rfl)
            have k4217 : H4196 m 13 = H4068 m 13 := (f4201 m 13 _ gm rfl)
            have k4218 : H4196 x 8 = H4068 x 8 := (f4201 x 8 _ gx rfl)
            have k4219 : H4196 m 3 = H4068 m 3 := (f4201 m 3 _ gm rfl)
            have k4220 : H4196 x 0 = H x 0 := ((f4201 x 0 _ gx rfl).trans (f4073 x 0 _ gx rfl))
            have q4221 : H4196 x 0 = (tc : Int) := k4220.trans e0
            have k4222 : H4196 m 5 = H m 5 := ((f4201 m 5 _ gm rfl).trans (f4073 m 5 _ gm rfl))
            have q4223 : H4196 m 5 = (tm : Int) := k4222.trans em
            have k4224 : H4196 x 6 = H x 6 := ((f4201 x 6 _ gx rfl).trans (f4073 x 6 _ gx rfl))
            have q4225 : H4196 x 6 = (cu : Int) := k4224.trans ecu
            have k4226 : H4196 x 7 = H x 7 := ((f4201 x 7 _ gx rfl).trans (f4073 x 7 _ gx rfl))
            have q4227 : H4196 x 7 = (dr : Int) := k4226.trans edr
            have h4228 : CEN T H4196 ce8 e8 d8 := (CEN_fr w4072 gce8 f4201 rfl a4082)
            have h4229 : TP T H4196 tc B := (TP_fr w4072 gtc f4201 rfl (TP_fr hW gtc f4073 rfl htc))
            have h4230 : TM T H4196 tm B := (TM_fr w4072 gtm f4201 rfl (TM_fr hW gtm f4073 rfl htm))
            have h4231 : DD T H4196 cu  := (DD_fr w4072 gcu f4201 rfl (DD_fr hW gcu f4073 rfl hcu))
            have h4232 : DD T H4196 dr  := (DD_fr w4072 gdr f4201 rfl (DD_fr hW gdr f4073 rfl hdr))
            have h4233 : DE T H4196 cu  := (DE_fr w4072 gcu f4201 rfl (DE_fr hW gcu f4073 rfl hdec))
            have h4234 : DE T H4196 dr  := (DE_fr w4072 gdr f4201 rfl (DE_fr hW gdr f4073 rfl hded))
            have h4235 : SP T H4196 x C8 := (SP_fr w4072 gx f4201 rfl (SP_fr hW gx f4073 rfl hsp))
            have h4236 : CU T H4196 cu e8 d8 n8 := (CU_fr w4072 gcu f4201 rfl (CU_fr hW gcu f4073 rfl hcu8))
            have h4237 : CY T H4196 cu (d8 0 3) g8 (H cu 17) := (CY_fr w4072 gcu f4201 rfl (CY_fr hW gcu f4073 rfl h4061))
            have k4238 : H4196 x 3 = H x 3 := ((f4201 x 3 _ gx rfl).trans (f4073 x 3 _ gx rfl))
            have q4239 : H4196 x 3 = (ce8 : Int) := k4238.trans ece8
            have h4240 : HDR T H4196 ce8  := (HDR_fr w4072 gce8 f4201 rfl (HDR_fr hW gce8 f4073 rfl hhdr8))
            have h4241 : RY T H4196 m (d8 0 3) g8 (H m 32) := (RY_fr w4072 gm f4201 rfl (RY_fr hW gm f4073 rfl h4062))
            have h4242 : RB T H4196 m e8 d8 := (RB_fr w4072 gm f4201 rfl h4192)
            exact WL.loc hX (by simp) (next T H4196 ⟨⟨w4200, g0, gx, gm, go, by omega, by omega⟩, ⟨_, tc, tm, cu, dr, _, _, _, _, _, ce8, q4221, gtc, h4229, q4223, gtm, h4230, q4225, gcu, q4227, gdr, h4231, h4232, h4233, h4234, h4235, hC1, hC2, h4236, h4242, (h4237).1, (h4241).1, hE, hZ, (by omega), (by assumption), (by omega), (by first | assumption | exact SG_0), q4239, gce8, h4228, h4240, a4208, gm⟩, by omega, by omega⟩ (by omega) (by omega))
          · refine wl_of hX hb cL_1107 (rw_iconst (pc' := 1108) rfl ?_)
            exfalso
            omega
        · show WL _ _ _ _ 1104 [(4, vI i), (3, .ref o), (2, .ref m), (1, .ref x), (0, .ref 0)] [vI z4202, vI z4074] _ H4196
          try have _u9 : z4074 = z4202 := XEX_1 (by assumption : XEX _ _ _ _ z4074) (by assumption)
          refine wl_of hX hb cL_1104 (rw_icmp_eq (p1 := 1653) (p2 := 1107) (by decide) rfl ⟨b4075.1, b4075.2⟩ ⟨b4203.1, b4203.2⟩ (fun c4243 => ?_) (fun c4243 => ?_))
          · have k4244 : H4196 x 9 = H4068 x 9 := (f4201 x 9 _ gx rfl)
            have k4245 : H4196 m 6 = H4068 m 6 := (f4201 m 6 _ gm rfl)
            have k4246 : H4196 x 11 = H4068 x 11 := (f4201 x 11 _ gx rfl)
            have k4247 : H4196 m 13 = H4068 m 13 := (f4201 m 13 _ gm rfl)
            have k4248 : H4196 x 8 = H4068 x 8 := (f4201 x 8 _ gx rfl)
            have k4249 : H4196 m 3 = H4068 m 3 := (f4201 m 3 _ gm rfl)
            have k4250 : H4196 x 0 = H x 0 := ((f4201 x 0 _ gx rfl).trans (f4073 x 0 _ gx rfl))
            have q4251 : H4196 x 0 = (tc : Int) := k4250.trans e0
            have k4252 : H4196 m 5 = H m 5 := ((f4201 m 5 _ gm rfl).trans (f4073 m 5 _ gm rfl))
            have q4253 : H4196 m 5 = (tm : Int) := k4252.trans em
            have k4254 : H4196 x 6 = H x 6 := ((f4201 x 6 _ gx rfl).trans (f4073 x 6 _ gx rfl))
            have q4255 : H4196 x 6 = (cu : Int) := k4254.trans ecu
            have k4256 : H4196 x 7 = H x 7 := ((f4201 x 7 _ gx rfl).trans (f4073 x 7 _ gx rfl))
            have q4257 : H4196 x 7 = (dr : Int) := k4256.trans edr
            have h4258 : CEN T H4196 ce8 e8 d8 := (CEN_fr w4072 gce8 f4201 rfl a4082)
            have h4259 : TP T H4196 tc B := (TP_fr w4072 gtc f4201 rfl (TP_fr hW gtc f4073 rfl htc))
            have h4260 : TM T H4196 tm B := (TM_fr w4072 gtm f4201 rfl (TM_fr hW gtm f4073 rfl htm))
            have h4261 : DD T H4196 cu  := (DD_fr w4072 gcu f4201 rfl (DD_fr hW gcu f4073 rfl hcu))
            have h4262 : DD T H4196 dr  := (DD_fr w4072 gdr f4201 rfl (DD_fr hW gdr f4073 rfl hdr))
            have h4263 : DE T H4196 cu  := (DE_fr w4072 gcu f4201 rfl (DE_fr hW gcu f4073 rfl hdec))
            have h4264 : DE T H4196 dr  := (DE_fr w4072 gdr f4201 rfl (DE_fr hW gdr f4073 rfl hded))
            have h4265 : SP T H4196 x C8 := (SP_fr w4072 gx f4201 rfl (SP_fr hW gx f4073 rfl hsp))
            have h4266 : CU T H4196 cu e8 d8 n8 := (CU_fr w4072 gcu f4201 rfl (CU_fr hW gcu f4073 rfl hcu8))
            have h4267 : CY T H4196 cu (d8 0 3) g8 (H cu 17) := (CY_fr w4072 gcu f4201 rfl (CY_fr hW gcu f4073 rfl h4061))
            have k4268 : H4196 x 3 = H x 3 := ((f4201 x 3 _ gx rfl).trans (f4073 x 3 _ gx rfl))
            have q4269 : H4196 x 3 = (ce8 : Int) := k4268.trans ece8
            have h4270 : HDR T H4196 ce8  := (HDR_fr w4072 gce8 f4201 rfl (HDR_fr hW gce8 f4073 rfl hhdr8))
            have h4271 : RY T H4196 m (d8 0 3) g8 (H m 32) := (RY_fr w4072 gm f4201 rfl (RY_fr hW gm f4073 rfl h4062))
            have h4272 : RB T H4196 m e8 d8 := (RB_fr w4072 gm f4201 rfl h4192)
            exact WL.loc hX (by simp) (next T H4196 ⟨⟨w4200, g0, gx, gm, go, by omega, by omega⟩, ⟨_, tc, tm, cu, dr, _, _, _, _, _, ce8, q4251, gtc, h4259, q4253, gtm, h4260, q4255, gcu, q4257, gdr, h4261, h4262, h4263, h4264, h4265, hC1, hC2, h4266, h4272, (h4267).1, (h4271).1, hE, hZ, (by omega), (by assumption), (by omega), (by first | assumption | exact SG_0), q4269, gce8, h4258, h4270, a4212, gm⟩, by omega, by omega⟩ (by omega) (by omega))
          · refine wl_of hX hb cL_1107 (rw_iconst (pc' := 1108) rfl ?_)
            exfalso
            omega
      · exfalso
        omega
  · refine wl_of hX hb cL_1072 (rw_iconst (pc' := 1073) rfl ?_)
    refine wl_of hX hb cL_1073 (rw_goto (p1 := 1077) (by decide) ?_)
    obtain ⟨B, tc, tm, cu, dr, C8, e8, d8, n8, g8, ce8, e0, gtc, htc, em, gtm, htm, ecu, gcu, edr, gdr, hcu, hdr, hdec, hded, hsp, hC1, hC2, hcu8, hrb8, hcg8, hmn8, hE, hZ, hn8, hXA, hV8, hSG, ece8, gce8, hcen8, hhdr8, hknn8, -⟩ := hXI
    have hN3 := RB_n3 hrb8
    have hE13 : ∀ h : Nat, h < 24 → 0 ≤ e8 13 h ∧ e8 13 h ≤ 100 := fun k hk => by
      obtain ⟨s, h1, h2, h3⟩ := hcu8.1.2.2.1
      exact ⟨(h3 k hk).1, (h3 k hk).2.1⟩
    have hXW := hXA.1
    have hXN := hXA.2
    have hE0 : e8 0 3 = d8 0 3 ∧ e8 0 0 = d8 0 0 := by
      have h := hE 0 (by decide)
      exact ⟨congrFun h 3, congrFun h 0⟩
    have u4273 := CU_k hcu8
    have h4274 : CY T H cu (d8 0 3) g8 (H cu 17) := ⟨hcg8, rfl⟩
    have h4275 : RY T H m (d8 0 3) g8 (H m 32) := ⟨hmn8, rfl⟩
    obtain ⟨t9, ht9⟩ : ∃ t : Int, t = H x 9 := ⟨_, rfl⟩
    obtain ⟨y9, hy9⟩ : ∃ y : Int, y = 1 := ⟨_, rfl⟩
    obtain ⟨r4276, q4277, g4278⟩ := hW.ref gx (t' := 6) (n := 13) (j := 2) (p := 0) (q := 0) rfl (by decide) rfl
    refine wl_of hX hb cL_1077 (xc_V (pc' := 1080) (r := x) (as := [vI (H 0 ((i + 1).toNat)), vI 1]) (st := []) (lm_11_139) rfl rfl (Nat.le_of_ble_eq_true rfl) hW gx sh_1 (by decide) rfl (by decide) (u_117 (e := e8) (d := d8) (n := n8) hW gx ⟨by omega, by omega⟩ ⟨by decide, by decide⟩ ecu gcu q4277 g4278 ece8 gce8 (by assumption) (by assumption) (by omega) (by omega) (by omega) (by omega) hcu8 hcen8 hhdr8) (fun R4279 T4280 H4281 p4282 => ?_))
    obtain ⟨e4283, w4285, f4286, z4287, e4284, b4288, p4289⟩ := p4282
    subst e4283
    subst e4284
    rcases p4289 with ⟨a4290, a4291, a4292⟩ | ⟨a4293, a4294, a4295⟩
    · show WL _ _ _ _ 1080 [(4, vI i), (3, .ref o), (2, .ref m), (1, .ref x), (0, .ref 0)] [vI z4287] _ H4281
      refine wl_of hX hb cL_1080 (rw_aload_n (pc' := 1081) (v := .ref m) rfl rfl rfl ?_)
      refine wl_of hX hb cL_1081 (rw_aload_n (pc' := 1082) (v := .ref 0) rfl rfl rfl ?_)
      refine wl_of hX hb cL_1082 (rw_iload (pc' := 1084) (z := i) rfl rfl ?_)
      refine wl_of hX hb cL_1084 (rw_iconst (pc' := 1085) rfl ?_)
      refine wl_of hX hb cL_1085 (rw_iadd (pc' := 1086) rfl ?_)
      have k4298 : H4281 0 ((i + 1).toNat) = H 0 ((i + 1).toNat) := (f4286 0 ((i + 1).toNat) _ g0 (wmem_s rfl))
      refine wl_of hX hb cL_1086 (xa_I (so := 0) (pc' := 1087) (a := 0) w4285 g0 (wsh_s _) (by omega) (wty_s _ _) (by omega) (by omega) rfl (fun b4296 b4297 => ?_))
      refine wl_of hX hb cL_1087 (rw_aload_n (pc' := 1088) (v := .ref 0) rfl rfl rfl ?_)
      refine wl_of hX hb cL_1088 (rw_iload (pc' := 1090) (z := i) rfl rfl ?_)
      refine wl_of hX hb cL_1090 (rw_iconst (pc' := 1091) rfl ?_)
      refine wl_of hX hb cL_1091 (rw_iadd (pc' := 1092) rfl ?_)
      have k4301 : H4281 0 ((i + 2).toNat) = H 0 ((i + 2).toNat) := (f4286 0 ((i + 2).toNat) _ g0 (wmem_s rfl))
      refine wl_of hX hb cL_1092 (xa_I (so := 0) (pc' := 1093) (a := 0) w4285 g0 (wsh_s _) (by omega) (wty_s _ _) (by omega) (by omega) rfl (fun b4299 b4300 => ?_))
      refine wl_of hX hb cL_1093 (rw_if_eq (p1 := 1100) (p2 := 1096) (by decide) rfl ⟨by omega, by omega⟩ (fun c4302 => ?_) (fun c4302 => ?_))
      · refine wl_of hX hb cL_1100 (rw_iconst (pc' := 1101) rfl ?_)
        have k4303 : wKI H4281 m = wKI H m := (wKI_fr hW gm f4286 rfl)
        have k4304 : H4281 x 9 = H x 9 := (f4286 x 9 _ gx rfl)
        have k4305 : H4281 m 6 = H m 6 := (f4286 m 6 _ gm rfl)
        have k4306 : H4281 x 11 = H x 11 := (f4286 x 11 _ gx rfl)
        have k4307 : H4281 m 13 = H m 13 := (f4286 m 13 _ gm rfl)
        have k4308 : H4281 x 8 = H x 8 := (f4286 x 8 _ gx rfl)
        have k4309 : H4281 m 3 = H m 3 := (f4286 m 3 _ gm rfl)
        rw [show H4281 0 ((i + 1).toNat) = H 0 ((i + 1).toNat) by omega]
        have h4310 : RB T H4281 m e8 d8 := (RB_fr hW gm f4286 rfl hrb8)
        have h4311 : KNN T H4281 m e8 d8 := (KNN_fr hW gm f4286 rfl hknn8)
        refine wl_of hX hb cL_1101 (xc_V (pc' := 1104) (r := m) (as := [vI (H 0 ((i + 1).toNat)), vI 0]) (st := [vI z4287]) (lm_11_142) rfl rfl (Nat.le_of_ble_eq_true rfl) w4285 gm sh_42 (by decide) rfl (by decide) (u_263 (e := e8) (d := d8) w4285 gm ⟨by omega, by omega⟩ ⟨by decide, by decide⟩ (by omega) (by assumption) (by assumption) (by assumption) (by assumption) h4310 h4311) (fun R4312 T4313 H4314 p4315 => ?_))
        obtain ⟨e4316, w4318, f4319, z4320, e4317, b4321, p4322⟩ := p4315
        subst e4316
        subst e4317
        rcases p4322 with ⟨a4323, a4324, a4325, a4326⟩ | ⟨a4327, a4328, a4329, a4330⟩
        · show WL _ _ _ _ 1104 [(4, vI i), (3, .ref o), (2, .ref m), (1, .ref x), (0, .ref 0)] [vI z4320, vI z4287] _ H4314
          refine wl_of hX hb cL_1104 (rw_icmp_eq (p1 := 1653) (p2 := 1107) (by decide) rfl ⟨b4288.1, b4288.2⟩ ⟨b4321.1, b4321.2⟩ (fun c4331 => ?_) (fun c4331 => ?_))
          · have k4332 : H4314 x 9 = H4281 x 9 := (f4319 x 9 _ gx rfl)
            have k4333 : H4314 m 6 = H4281 m 6 := (f4319 m 6 _ gm rfl)
            have k4334 : H4314 x 11 = H4281 x 11 := (f4319 x 11 _ gx rfl)
            have k4335 : H4314 m 13 = H4281 m 13 := (f4319 m 13 _ gm rfl)
            have k4336 : H4314 x 8 = H4281 x 8 := (f4319 x 8 _ gx rfl)
            have k4337 : H4314 m 3 = H4281 m 3 := (f4319 m 3 _ gm rfl)
            have k4338 : H4314 x 0 = H x 0 := ((f4319 x 0 _ gx rfl).trans (f4286 x 0 _ gx rfl))
            have q4339 : H4314 x 0 = (tc : Int) := k4338.trans e0
            have k4340 : H4314 m 5 = H m 5 := ((f4319 m 5 _ gm rfl).trans (f4286 m 5 _ gm rfl))
            have q4341 : H4314 m 5 = (tm : Int) := k4340.trans em
            have k4342 : H4314 x 6 = H x 6 := ((f4319 x 6 _ gx rfl).trans (f4286 x 6 _ gx rfl))
            have q4343 : H4314 x 6 = (cu : Int) := k4342.trans ecu
            have k4344 : H4314 x 7 = H x 7 := ((f4319 x 7 _ gx rfl).trans (f4286 x 7 _ gx rfl))
            have q4345 : H4314 x 7 = (dr : Int) := k4344.trans edr
            have h4346 : CEN T H4314 ce8 e8 d8 := (CEN_fr w4285 gce8 f4319 rfl a4292)
            have h4347 : TP T H4314 tc B := (TP_fr w4285 gtc f4319 rfl (TP_fr hW gtc f4286 rfl htc))
            have h4348 : TM T H4314 tm B := (TM_fr w4285 gtm f4319 rfl (TM_fr hW gtm f4286 rfl htm))
            have h4349 : DD T H4314 cu  := (DD_fr w4285 gcu f4319 rfl (DD_fr hW gcu f4286 rfl hcu))
            have h4350 : DD T H4314 dr  := (DD_fr w4285 gdr f4319 rfl (DD_fr hW gdr f4286 rfl hdr))
            have h4351 : DE T H4314 cu  := (DE_fr w4285 gcu f4319 rfl (DE_fr hW gcu f4286 rfl hdec))
            have h4352 : DE T H4314 dr  := (DE_fr w4285 gdr f4319 rfl (DE_fr hW gdr f4286 rfl hded))
            have h4353 : SP T H4314 x C8 := (SP_fr w4285 gx f4319 rfl (SP_fr hW gx f4286 rfl hsp))
            have h4354 : CU T H4314 cu e8 d8 n8 := (CU_fr w4285 gcu f4319 rfl (CU_fr hW gcu f4286 rfl hcu8))
            have h4355 : CY T H4314 cu (d8 0 3) g8 (H cu 17) := (CY_fr w4285 gcu f4319 rfl (CY_fr hW gcu f4286 rfl h4274))
            have k4356 : H4314 x 3 = H x 3 := ((f4319 x 3 _ gx rfl).trans (f4286 x 3 _ gx rfl))
            have q4357 : H4314 x 3 = (ce8 : Int) := k4356.trans ece8
            have h4358 : HDR T H4314 ce8  := (HDR_fr w4285 gce8 f4319 rfl (HDR_fr hW gce8 f4286 rfl hhdr8))
            have h4359 : RY T H4314 m (d8 0 3) g8 (H m 32) := (RY_fr w4285 gm f4319 rfl (RY_fr hW gm f4286 rfl h4275))
            have h4360 : RB T H4314 m e8 d8 := (RB_fr w4285 gm f4319 rfl h4310)
            exact WL.loc hX (by simp) (next T H4314 ⟨⟨w4318, g0, gx, gm, go, by omega, by omega⟩, ⟨_, tc, tm, cu, dr, _, _, _, _, _, ce8, q4339, gtc, h4347, q4341, gtm, h4348, q4343, gcu, q4345, gdr, h4349, h4350, h4351, h4352, h4353, hC1, hC2, h4354, h4360, (h4355).1, (h4359).1, hE, hZ, (by omega), (by assumption), (by omega), (by first | assumption | exact SG_0), q4357, gce8, h4346, h4358, a4326, gm⟩, by omega, by omega⟩ (by omega) (by omega))
          · exfalso
            omega
        · show WL _ _ _ _ 1104 [(4, vI i), (3, .ref o), (2, .ref m), (1, .ref x), (0, .ref 0)] [vI z4320, vI z4287] _ H4314
          try have _u9 : z4287 = z4320 := XEX_1 (by assumption : XEX _ _ _ _ z4287) (by assumption)
          refine wl_of hX hb cL_1104 (rw_icmp_eq (p1 := 1653) (p2 := 1107) (by decide) rfl ⟨b4288.1, b4288.2⟩ ⟨b4321.1, b4321.2⟩ (fun c4361 => ?_) (fun c4361 => ?_))
          · have k4362 : H4314 x 9 = H4281 x 9 := (f4319 x 9 _ gx rfl)
            have k4363 : H4314 m 6 = H4281 m 6 := (f4319 m 6 _ gm rfl)
            have k4364 : H4314 x 11 = H4281 x 11 := (f4319 x 11 _ gx rfl)
            have k4365 : H4314 m 13 = H4281 m 13 := (f4319 m 13 _ gm rfl)
            have k4366 : H4314 x 8 = H4281 x 8 := (f4319 x 8 _ gx rfl)
            have k4367 : H4314 m 3 = H4281 m 3 := (f4319 m 3 _ gm rfl)
            have k4368 : H4314 x 0 = H x 0 := ((f4319 x 0 _ gx rfl).trans (f4286 x 0 _ gx rfl))
            have q4369 : H4314 x 0 = (tc : Int) := k4368.trans e0
            have k4370 : H4314 m 5 = H m 5 := ((f4319 m 5 _ gm rfl).trans (f4286 m 5 _ gm rfl))
            have q4371 : H4314 m 5 = (tm : Int) := k4370.trans em
            have k4372 : H4314 x 6 = H x 6 := ((f4319 x 6 _ gx rfl).trans (f4286 x 6 _ gx rfl))
            have q4373 : H4314 x 6 = (cu : Int) := k4372.trans ecu
            have k4374 : H4314 x 7 = H x 7 := ((f4319 x 7 _ gx rfl).trans (f4286 x 7 _ gx rfl))
            have q4375 : H4314 x 7 = (dr : Int) := k4374.trans edr
            have h4376 : CEN T H4314 ce8 e8 d8 := (CEN_fr w4285 gce8 f4319 rfl a4292)
            have h4377 : TP T H4314 tc B := (TP_fr w4285 gtc f4319 rfl (TP_fr hW gtc f4286 rfl htc))
            have h4378 : TM T H4314 tm B := (TM_fr w4285 gtm f4319 rfl (TM_fr hW gtm f4286 rfl htm))
            have h4379 : DD T H4314 cu  := (DD_fr w4285 gcu f4319 rfl (DD_fr hW gcu f4286 rfl hcu))
            have h4380 : DD T H4314 dr  := (DD_fr w4285 gdr f4319 rfl (DD_fr hW gdr f4286 rfl hdr))
            have h4381 : DE T H4314 cu  := (DE_fr w4285 gcu f4319 rfl (DE_fr hW gcu f4286 rfl hdec))
            have h4382 : DE T H4314 dr  := (DE_fr w4285 gdr f4319 rfl (DE_fr hW gdr f4286 rfl hded))
            have h4383 : SP T H4314 x C8 := (SP_fr w4285 gx f4319 rfl (SP_fr hW gx f4286 rfl hsp))
            have h4384 : CU T H4314 cu e8 d8 n8 := (CU_fr w4285 gcu f4319 rfl (CU_fr hW gcu f4286 rfl hcu8))
            have h4385 : CY T H4314 cu (d8 0 3) g8 (H cu 17) := (CY_fr w4285 gcu f4319 rfl (CY_fr hW gcu f4286 rfl h4274))
            have k4386 : H4314 x 3 = H x 3 := ((f4319 x 3 _ gx rfl).trans (f4286 x 3 _ gx rfl))
            have q4387 : H4314 x 3 = (ce8 : Int) := k4386.trans ece8
            have h4388 : HDR T H4314 ce8  := (HDR_fr w4285 gce8 f4319 rfl (HDR_fr hW gce8 f4286 rfl hhdr8))
            have h4389 : RY T H4314 m (d8 0 3) g8 (H m 32) := (RY_fr w4285 gm f4319 rfl (RY_fr hW gm f4286 rfl h4275))
            have h4390 : RB T H4314 m e8 d8 := (RB_fr w4285 gm f4319 rfl h4310)
            exact WL.loc hX (by simp) (next T H4314 ⟨⟨w4318, g0, gx, gm, go, by omega, by omega⟩, ⟨_, tc, tm, cu, dr, _, _, _, _, _, ce8, q4369, gtc, h4377, q4371, gtm, h4378, q4373, gcu, q4375, gdr, h4379, h4380, h4381, h4382, h4383, hC1, hC2, h4384, h4390, (h4385).1, (h4389).1, hE, hZ, (by omega), (by assumption), (by omega), (by first | assumption | exact SG_0), q4387, gce8, h4376, h4388, a4330, gm⟩, by omega, by omega⟩ (by omega) (by omega))
          · refine wl_of hX hb cL_1107 (rw_iconst (pc' := 1108) rfl ?_)
            exfalso
            omega
      · refine wl_of hX hb cL_1096 (rw_iconst (pc' := 1097) rfl ?_)
        refine wl_of hX hb cL_1097 (rw_goto (p1 := 1101) (by decide) ?_)
        have k4391 : wKI H4281 m = wKI H m := (wKI_fr hW gm f4286 rfl)
        have k4392 : H4281 x 9 = H x 9 := (f4286 x 9 _ gx rfl)
        have k4393 : H4281 m 6 = H m 6 := (f4286 m 6 _ gm rfl)
        have k4394 : H4281 x 11 = H x 11 := (f4286 x 11 _ gx rfl)
        have k4395 : H4281 m 13 = H m 13 := (f4286 m 13 _ gm rfl)
        have k4396 : H4281 x 8 = H x 8 := (f4286 x 8 _ gx rfl)
        have k4397 : H4281 m 3 = H m 3 := (f4286 m 3 _ gm rfl)
        rw [show H4281 0 ((i + 1).toNat) = H 0 ((i + 1).toNat) by omega]
        have h4398 : RB T H4281 m e8 d8 := (RB_fr hW gm f4286 rfl hrb8)
        have h4399 : KNN T H4281 m e8 d8 := (KNN_fr hW gm f4286 rfl hknn8)
        refine wl_of hX hb cL_1101 (xc_V (pc' := 1104) (r := m) (as := [vI (H 0 ((i + 1).toNat)), vI 1]) (st := [vI z4287]) (lm_11_142) rfl rfl (Nat.le_of_ble_eq_true rfl) w4285 gm sh_42 (by decide) rfl (by decide) (u_263 (e := e8) (d := d8) w4285 gm ⟨by omega, by omega⟩ ⟨by decide, by decide⟩ (by omega) (by assumption) (by assumption) (by assumption) (by assumption) h4398 h4399) (fun R4400 T4401 H4402 p4403 => ?_))
        obtain ⟨e4404, w4406, f4407, z4408, e4405, b4409, p4410⟩ := p4403
        subst e4404
        subst e4405
        rcases p4410 with ⟨a4411, a4412, a4413, a4414⟩ | ⟨a4415, a4416, a4417, a4418⟩
        · show WL _ _ _ _ 1104 [(4, vI i), (3, .ref o), (2, .ref m), (1, .ref x), (0, .ref 0)] [vI z4408, vI z4287] _ H4402
          refine wl_of hX hb cL_1104 (rw_icmp_eq (p1 := 1653) (p2 := 1107) (by decide) rfl ⟨b4288.1, b4288.2⟩ ⟨b4409.1, b4409.2⟩ (fun c4419 => ?_) (fun c4419 => ?_))
          · have k4420 : H4402 x 9 = H4281 x 9 := (f4407 x 9 _ gx rfl)
            have k4421 : H4402 m 6 = H4281 m 6 := (f4407 m 6 _ gm rfl)
            have k4422 : H4402 x 11 = H4281 x 11 := (f4407 x 11 _ gx rfl)
            have k4423 : H4402 m 13 = H4281 m 13 := (f4407 m 13 _ gm rfl)
            have k4424 : H4402 x 8 = H4281 x 8 := (f4407 x 8 _ gx rfl)
            have k4425 : H4402 m 3 = H4281 m 3 := (f4407 m 3 _ gm rfl)
            have k4426 : H4402 x 0 = H x 0 := ((f4407 x 0 _ gx rfl).trans (f4286 x 0 _ gx rfl))
            have q4427 : H4402 x 0 = (tc : Int) := k4426.trans e0
            have k4428 : H4402 m 5 = H m 5 := ((f4407 m 5 _ gm rfl).trans (f4286 m 5 _ gm rfl))
            have q4429 : H4402 m 5 = (tm : Int) := k4428.trans em
            have k4430 : H4402 x 6 = H x 6 := ((f4407 x 6 _ gx rfl).trans (f4286 x 6 _ gx rfl))
            have q4431 : H4402 x 6 = (cu : Int) := k4430.trans ecu
            have k4432 : H4402 x 7 = H x 7 := ((f4407 x 7 _ gx rfl).trans (f4286 x 7 _ gx rfl))
            have q4433 : H4402 x 7 = (dr : Int) := k4432.trans edr
            have h4434 : CEN T H4402 ce8 e8 d8 := (CEN_fr w4285 gce8 f4407 rfl a4292)
            have h4435 : TP T H4402 tc B := (TP_fr w4285 gtc f4407 rfl (TP_fr hW gtc f4286 rfl htc))
            have h4436 : TM T H4402 tm B := (TM_fr w4285 gtm f4407 rfl (TM_fr hW gtm f4286 rfl htm))
            have h4437 : DD T H4402 cu  := (DD_fr w4285 gcu f4407 rfl (DD_fr hW gcu f4286 rfl hcu))
            have h4438 : DD T H4402 dr  := (DD_fr w4285 gdr f4407 rfl (DD_fr hW gdr f4286 rfl hdr))
            have h4439 : DE T H4402 cu  := (DE_fr w4285 gcu f4407 rfl (DE_fr hW gcu f4286 rfl hdec))
            have h4440 : DE T H4402 dr  := (DE_fr w4285 gdr f4407 rfl (DE_fr hW gdr f4286 rfl hded))
            have h4441 : SP T H4402 x C8 := (SP_fr w4285 gx f4407 rfl (SP_fr hW gx f4286 rfl hsp))
            have h4442 : CU T H4402 cu e8 d8 n8 := (CU_fr w4285 gcu f4407 rfl (CU_fr hW gcu f4286 rfl hcu8))
            have h4443 : CY T H4402 cu (d8 0 3) g8 (H cu 17) := (CY_fr w4285 gcu f4407 rfl (CY_fr hW gcu f4286 rfl h4274))
            have k4444 : H4402 x 3 = H x 3 := ((f4407 x 3 _ gx rfl).trans (f4286 x 3 _ gx rfl))
            have q4445 : H4402 x 3 = (ce8 : Int) := k4444.trans ece8
            have h4446 : HDR T H4402 ce8  := (HDR_fr w4285 gce8 f4407 rfl (HDR_fr hW gce8 f4286 rfl hhdr8))
            have h4447 : RY T H4402 m (d8 0 3) g8 (H m 32) := (RY_fr w4285 gm f4407 rfl (RY_fr hW gm f4286 rfl h4275))
            have h4448 : RB T H4402 m e8 d8 := (RB_fr w4285 gm f4407 rfl h4398)
            exact WL.loc hX (by simp) (next T H4402 ⟨⟨w4406, g0, gx, gm, go, by omega, by omega⟩, ⟨_, tc, tm, cu, dr, _, _, _, _, _, ce8, q4427, gtc, h4435, q4429, gtm, h4436, q4431, gcu, q4433, gdr, h4437, h4438, h4439, h4440, h4441, hC1, hC2, h4442, h4448, (h4443).1, (h4447).1, hE, hZ, (by omega), (by assumption), (by omega), (by first | assumption | exact SG_0), q4445, gce8, h4434, h4446, a4414, gm⟩, by omega, by omega⟩ (by omega) (by omega))
          · exfalso
            omega
        · show WL _ _ _ _ 1104 [(4, vI i), (3, .ref o), (2, .ref m), (1, .ref x), (0, .ref 0)] [vI z4408, vI z4287] _ H4402
          try have _u9 : z4287 = z4408 := XEX_1 (by assumption : XEX _ _ _ _ z4287) (by assumption)
          refine wl_of hX hb cL_1104 (rw_icmp_eq (p1 := 1653) (p2 := 1107) (by decide) rfl ⟨b4288.1, b4288.2⟩ ⟨b4409.1, b4409.2⟩ (fun c4449 => ?_) (fun c4449 => ?_))
          · have k4450 : H4402 x 9 = H4281 x 9 := (f4407 x 9 _ gx rfl)
            have k4451 : H4402 m 6 = H4281 m 6 := (f4407 m 6 _ gm rfl)
            have k4452 : H4402 x 11 = H4281 x 11 := (f4407 x 11 _ gx rfl)
            have k4453 : H4402 m 13 = H4281 m 13 := (f4407 m 13 _ gm rfl)
            have k4454 : H4402 x 8 = H4281 x 8 := (f4407 x 8 _ gx rfl)
            have k4455 : H4402 m 3 = H4281 m 3 := (f4407 m 3 _ gm rfl)
            have k4456 : H4402 x 0 = H x 0 := ((f4407 x 0 _ gx rfl).trans (f4286 x 0 _ gx rfl))
            have q4457 : H4402 x 0 = (tc : Int) := k4456.trans e0
            have k4458 : H4402 m 5 = H m 5 := ((f4407 m 5 _ gm rfl).trans (f4286 m 5 _ gm rfl))
            have q4459 : H4402 m 5 = (tm : Int) := k4458.trans em
            have k4460 : H4402 x 6 = H x 6 := ((f4407 x 6 _ gx rfl).trans (f4286 x 6 _ gx rfl))
            have q4461 : H4402 x 6 = (cu : Int) := k4460.trans ecu
            have k4462 : H4402 x 7 = H x 7 := ((f4407 x 7 _ gx rfl).trans (f4286 x 7 _ gx rfl))
            have q4463 : H4402 x 7 = (dr : Int) := k4462.trans edr
            have h4464 : CEN T H4402 ce8 e8 d8 := (CEN_fr w4285 gce8 f4407 rfl a4292)
            have h4465 : TP T H4402 tc B := (TP_fr w4285 gtc f4407 rfl (TP_fr hW gtc f4286 rfl htc))
            have h4466 : TM T H4402 tm B := (TM_fr w4285 gtm f4407 rfl (TM_fr hW gtm f4286 rfl htm))
            have h4467 : DD T H4402 cu  := (DD_fr w4285 gcu f4407 rfl (DD_fr hW gcu f4286 rfl hcu))
            have h4468 : DD T H4402 dr  := (DD_fr w4285 gdr f4407 rfl (DD_fr hW gdr f4286 rfl hdr))
            have h4469 : DE T H4402 cu  := (DE_fr w4285 gcu f4407 rfl (DE_fr hW gcu f4286 rfl hdec))
            have h4470 : DE T H4402 dr  := (DE_fr w4285 gdr f4407 rfl (DE_fr hW gdr f4286 rfl hded))
            have h4471 : SP T H4402 x C8 := (SP_fr w4285 gx f4407 rfl (SP_fr hW gx f4286 rfl hsp))
            have h4472 : CU T H4402 cu e8 d8 n8 := (CU_fr w4285 gcu f4407 rfl (CU_fr hW gcu f4286 rfl hcu8))
            have h4473 : CY T H4402 cu (d8 0 3) g8 (H cu 17) := (CY_fr w4285 gcu f4407 rfl (CY_fr hW gcu f4286 rfl h4274))
            have k4474 : H4402 x 3 = H x 3 := ((f4407 x 3 _ gx rfl).trans (f4286 x 3 _ gx rfl))
            have q4475 : H4402 x 3 = (ce8 : Int) := k4474.trans ece8
            have h4476 : HDR T H4402 ce8  := (HDR_fr w4285 gce8 f4407 rfl (HDR_fr hW gce8 f4286 rfl hhdr8))
            have h4477 : RY T H4402 m (d8 0 3) g8 (H m 32) := (RY_fr w4285 gm f4407 rfl (RY_fr hW gm f4286 rfl h4275))
            have h4478 : RB T H4402 m e8 d8 := (RB_fr w4285 gm f4407 rfl h4398)
            exact WL.loc hX (by simp) (next T H4402 ⟨⟨w4406, g0, gx, gm, go, by omega, by omega⟩, ⟨_, tc, tm, cu, dr, _, _, _, _, _, ce8, q4457, gtc, h4465, q4459, gtm, h4466, q4461, gcu, q4463, gdr, h4467, h4468, h4469, h4470, h4471, hC1, hC2, h4472, h4478, (h4473).1, (h4477).1, hE, hZ, (by omega), (by assumption), (by omega), (by first | assumption | exact SG_0), q4475, gce8, h4464, h4476, a4418, gm⟩, by omega, by omega⟩ (by omega) (by omega))
          · refine wl_of hX hb cL_1107 (rw_iconst (pc' := 1108) rfl ?_)
            exfalso
            omega
    · show WL _ _ _ _ 1080 [(4, vI i), (3, .ref o), (2, .ref m), (1, .ref x), (0, .ref 0)] [vI z4287] _ H4281
      refine wl_of hX hb cL_1080 (rw_aload_n (pc' := 1081) (v := .ref m) rfl rfl rfl ?_)
      refine wl_of hX hb cL_1081 (rw_aload_n (pc' := 1082) (v := .ref 0) rfl rfl rfl ?_)
      refine wl_of hX hb cL_1082 (rw_iload (pc' := 1084) (z := i) rfl rfl ?_)
      refine wl_of hX hb cL_1084 (rw_iconst (pc' := 1085) rfl ?_)
      refine wl_of hX hb cL_1085 (rw_iadd (pc' := 1086) rfl ?_)
      have k4481 : H4281 0 ((i + 1).toNat) = H 0 ((i + 1).toNat) := (f4286 0 ((i + 1).toNat) _ g0 (wmem_s rfl))
      refine wl_of hX hb cL_1086 (xa_I (so := 0) (pc' := 1087) (a := 0) w4285 g0 (wsh_s _) (by omega) (wty_s _ _) (by omega) (by omega) rfl (fun b4479 b4480 => ?_))
      refine wl_of hX hb cL_1087 (rw_aload_n (pc' := 1088) (v := .ref 0) rfl rfl rfl ?_)
      refine wl_of hX hb cL_1088 (rw_iload (pc' := 1090) (z := i) rfl rfl ?_)
      refine wl_of hX hb cL_1090 (rw_iconst (pc' := 1091) rfl ?_)
      refine wl_of hX hb cL_1091 (rw_iadd (pc' := 1092) rfl ?_)
      have k4484 : H4281 0 ((i + 2).toNat) = H 0 ((i + 2).toNat) := (f4286 0 ((i + 2).toNat) _ g0 (wmem_s rfl))
      refine wl_of hX hb cL_1092 (xa_I (so := 0) (pc' := 1093) (a := 0) w4285 g0 (wsh_s _) (by omega) (wty_s _ _) (by omega) (by omega) rfl (fun b4482 b4483 => ?_))
      refine wl_of hX hb cL_1093 (rw_if_eq (p1 := 1100) (p2 := 1096) (by decide) rfl ⟨by omega, by omega⟩ (fun c4485 => ?_) (fun c4485 => ?_))
      · refine wl_of hX hb cL_1100 (rw_iconst (pc' := 1101) rfl ?_)
        have k4486 : wKI H4281 m = wKI H m := (wKI_fr hW gm f4286 rfl)
        have k4487 : H4281 x 9 = H x 9 := (f4286 x 9 _ gx rfl)
        have k4488 : H4281 m 6 = H m 6 := (f4286 m 6 _ gm rfl)
        have k4489 : H4281 x 11 = H x 11 := (f4286 x 11 _ gx rfl)
        have k4490 : H4281 m 13 = H m 13 := (f4286 m 13 _ gm rfl)
        have k4491 : H4281 x 8 = H x 8 := (f4286 x 8 _ gx rfl)
        have k4492 : H4281 m 3 = H m 3 := (f4286 m 3 _ gm rfl)
        rw [show H4281 0 ((i + 1).toNat) = H 0 ((i + 1).toNat) by omega]
        have h4493 : RB T H4281 m e8 d8 := (RB_fr hW gm f4286 rfl hrb8)
        have h4494 : KNN T H4281 m e8 d8 := (KNN_fr hW gm f4286 rfl hknn8)
        refine wl_of hX hb cL_1101 (xc_V (pc' := 1104) (r := m) (as := [vI (H 0 ((i + 1).toNat)), vI 0]) (st := [vI z4287]) (lm_11_142) rfl rfl (Nat.le_of_ble_eq_true rfl) w4285 gm sh_42 (by decide) rfl (by decide) (u_263 (e := e8) (d := d8) w4285 gm ⟨by omega, by omega⟩ ⟨by decide, by decide⟩ (by omega) (by assumption) (by assumption) (by assumption) (by assumption) h4493 h4494) (fun R4495 T4496 H4497 p4498 => ?_))
        obtain ⟨e4499, w4501, f4502, z4503, e4500, b4504, p4505⟩ := p4498
        subst e4499
        subst e4500
        rcases p4505 with ⟨a4506, a4507, a4508, a4509⟩ | ⟨a4510, a4511, a4512, a4513⟩
        · show WL _ _ _ _ 1104 [(4, vI i), (3, .ref o), (2, .ref m), (1, .ref x), (0, .ref 0)] [vI z4503, vI z4287] _ H4497
          refine wl_of hX hb cL_1104 (rw_icmp_eq (p1 := 1653) (p2 := 1107) (by decide) rfl ⟨b4288.1, b4288.2⟩ ⟨b4504.1, b4504.2⟩ (fun c4514 => ?_) (fun c4514 => ?_))
          · have k4515 : H4497 x 9 = H4281 x 9 := (f4502 x 9 _ gx rfl)
            have k4516 : H4497 m 6 = H4281 m 6 := (f4502 m 6 _ gm rfl)
            have k4517 : H4497 x 11 = H4281 x 11 := (f4502 x 11 _ gx rfl)
            have k4518 : H4497 m 13 = H4281 m 13 := (f4502 m 13 _ gm rfl)
            have k4519 : H4497 x 8 = H4281 x 8 := (f4502 x 8 _ gx rfl)
            have k4520 : H4497 m 3 = H4281 m 3 := (f4502 m 3 _ gm rfl)
            have k4521 : H4497 x 0 = H x 0 := ((f4502 x 0 _ gx rfl).trans (f4286 x 0 _ gx rfl))
            have q4522 : H4497 x 0 = (tc : Int) := k4521.trans e0
            have k4523 : H4497 m 5 = H m 5 := ((f4502 m 5 _ gm rfl).trans (f4286 m 5 _ gm rfl))
            have q4524 : H4497 m 5 = (tm : Int) := k4523.trans em
            have k4525 : H4497 x 6 = H x 6 := ((f4502 x 6 _ gx rfl).trans (f4286 x 6 _ gx rfl))
            have q4526 : H4497 x 6 = (cu : Int) := k4525.trans ecu
            have k4527 : H4497 x 7 = H x 7 := ((f4502 x 7 _ gx rfl).trans (f4286 x 7 _ gx rfl))
            have q4528 : H4497 x 7 = (dr : Int) := k4527.trans edr
            have h4529 : CEN T H4497 ce8 e8 d8 := (CEN_fr w4285 gce8 f4502 rfl a4295)
            have h4530 : TP T H4497 tc B := (TP_fr w4285 gtc f4502 rfl (TP_fr hW gtc f4286 rfl htc))
            have h4531 : TM T H4497 tm B := (TM_fr w4285 gtm f4502 rfl (TM_fr hW gtm f4286 rfl htm))
            have h4532 : DD T H4497 cu  := (DD_fr w4285 gcu f4502 rfl (DD_fr hW gcu f4286 rfl hcu))
            have h4533 : DD T H4497 dr  := (DD_fr w4285 gdr f4502 rfl (DD_fr hW gdr f4286 rfl hdr))
            have h4534 : DE T H4497 cu  := (DE_fr w4285 gcu f4502 rfl (DE_fr hW gcu f4286 rfl hdec))
            have h4535 : DE T H4497 dr  := (DE_fr w4285 gdr f4502 rfl (DE_fr hW gdr f4286 rfl hded))
            have h4536 : SP T H4497 x C8 := (SP_fr w4285 gx f4502 rfl (SP_fr hW gx f4286 rfl hsp))
            have h4537 : CU T H4497 cu e8 d8 n8 := (CU_fr w4285 gcu f4502 rfl (CU_fr hW gcu f4286 rfl hcu8))
            have h4538 : CY T H4497 cu (d8 0 3) g8 (H cu 17) := (CY_fr w4285 gcu f4502 rfl (CY_fr hW gcu f4286 rfl h4274))
            have k4539 : H4497 x 3 = H x 3 := ((f4502 x 3 _ gx rfl).trans (f4286 x 3 _ gx rfl))
            have q4540 : H4497 x 3 = (ce8 : Int) := k4539.trans ece8
            have h4541 : HDR T H4497 ce8  := (HDR_fr w4285 gce8 f4502 rfl (HDR_fr hW gce8 f4286 rfl hhdr8))
            have h4542 : RY T H4497 m (d8 0 3) g8 (H m 32) := (RY_fr w4285 gm f4502 rfl (RY_fr hW gm f4286 rfl h4275))
            have h4543 : RB T H4497 m e8 d8 := (RB_fr w4285 gm f4502 rfl h4493)
            exact WL.loc hX (by simp) (next T H4497 ⟨⟨w4501, g0, gx, gm, go, by omega, by omega⟩, ⟨_, tc, tm, cu, dr, _, _, _, _, _, ce8, q4522, gtc, h4530, q4524, gtm, h4531, q4526, gcu, q4528, gdr, h4532, h4533, h4534, h4535, h4536, hC1, hC2, h4537, h4543, (h4538).1, (h4542).1, hE, hZ, (by omega), (by assumption), (by omega), (by first | assumption | exact SG_0), q4540, gce8, h4529, h4541, a4509, gm⟩, by omega, by omega⟩ (by omega) (by omega))
          · refine wl_of hX hb cL_1107 (rw_iconst (pc' := 1108) rfl ?_)
            exfalso
            omega
        · show WL _ _ _ _ 1104 [(4, vI i), (3, .ref o), (2, .ref m), (1, .ref x), (0, .ref 0)] [vI z4503, vI z4287] _ H4497
          try have _u9 : z4287 = z4503 := XEX_1 (by assumption : XEX _ _ _ _ z4287) (by assumption)
          refine wl_of hX hb cL_1104 (rw_icmp_eq (p1 := 1653) (p2 := 1107) (by decide) rfl ⟨b4288.1, b4288.2⟩ ⟨b4504.1, b4504.2⟩ (fun c4544 => ?_) (fun c4544 => ?_))
          · have k4545 : H4497 x 9 = H4281 x 9 := (f4502 x 9 _ gx rfl)
            have k4546 : H4497 m 6 = H4281 m 6 := (f4502 m 6 _ gm rfl)
            have k4547 : H4497 x 11 = H4281 x 11 := (f4502 x 11 _ gx rfl)
            have k4548 : H4497 m 13 = H4281 m 13 := (f4502 m 13 _ gm rfl)
            have k4549 : H4497 x 8 = H4281 x 8 := (f4502 x 8 _ gx rfl)
            have k4550 : H4497 m 3 = H4281 m 3 := (f4502 m 3 _ gm rfl)
            have k4551 : H4497 x 0 = H x 0 := ((f4502 x 0 _ gx rfl).trans (f4286 x 0 _ gx rfl))
            have q4552 : H4497 x 0 = (tc : Int) := k4551.trans e0
            have k4553 : H4497 m 5 = H m 5 := ((f4502 m 5 _ gm rfl).trans (f4286 m 5 _ gm rfl))
            have q4554 : H4497 m 5 = (tm : Int) := k4553.trans em
            have k4555 : H4497 x 6 = H x 6 := ((f4502 x 6 _ gx rfl).trans (f4286 x 6 _ gx rfl))
            have q4556 : H4497 x 6 = (cu : Int) := k4555.trans ecu
            have k4557 : H4497 x 7 = H x 7 := ((f4502 x 7 _ gx rfl).trans (f4286 x 7 _ gx rfl))
            have q4558 : H4497 x 7 = (dr : Int) := k4557.trans edr
            have h4559 : CEN T H4497 ce8 e8 d8 := (CEN_fr w4285 gce8 f4502 rfl a4295)
            have h4560 : TP T H4497 tc B := (TP_fr w4285 gtc f4502 rfl (TP_fr hW gtc f4286 rfl htc))
            have h4561 : TM T H4497 tm B := (TM_fr w4285 gtm f4502 rfl (TM_fr hW gtm f4286 rfl htm))
            have h4562 : DD T H4497 cu  := (DD_fr w4285 gcu f4502 rfl (DD_fr hW gcu f4286 rfl hcu))
            have h4563 : DD T H4497 dr  := (DD_fr w4285 gdr f4502 rfl (DD_fr hW gdr f4286 rfl hdr))
            have h4564 : DE T H4497 cu  := (DE_fr w4285 gcu f4502 rfl (DE_fr hW gcu f4286 rfl hdec))
            have h4565 : DE T H4497 dr  := (DE_fr w4285 gdr f4502 rfl (DE_fr hW gdr f4286 rfl hded))
            have h4566 : SP T H4497 x C8 := (SP_fr w4285 gx f4502 rfl (SP_fr hW gx f4286 rfl hsp))
            have h4567 : CU T H4497 cu e8 d8 n8 := (CU_fr w4285 gcu f4502 rfl (CU_fr hW gcu f4286 rfl hcu8))
            have h4568 : CY T H4497 cu (d8 0 3) g8 (H cu 17) := (CY_fr w4285 gcu f4502 rfl (CY_fr hW gcu f4286 rfl h4274))
            have k4569 : H4497 x 3 = H x 3 := ((f4502 x 3 _ gx rfl).trans (f4286 x 3 _ gx rfl))
            have q4570 : H4497 x 3 = (ce8 : Int) := k4569.trans ece8
            have h4571 : HDR T H4497 ce8  := (HDR_fr w4285 gce8 f4502 rfl (HDR_fr hW gce8 f4286 rfl hhdr8))
            have h4572 : RY T H4497 m (d8 0 3) g8 (H m 32) := (RY_fr w4285 gm f4502 rfl (RY_fr hW gm f4286 rfl h4275))
            have h4573 : RB T H4497 m e8 d8 := (RB_fr w4285 gm f4502 rfl h4493)
            exact WL.loc hX (by simp) (next T H4497 ⟨⟨w4501, g0, gx, gm, go, by omega, by omega⟩, ⟨_, tc, tm, cu, dr, _, _, _, _, _, ce8, q4552, gtc, h4560, q4554, gtm, h4561, q4556, gcu, q4558, gdr, h4562, h4563, h4564, h4565, h4566, hC1, hC2, h4567, h4573, (h4568).1, (h4572).1, hE, hZ, (by omega), (by assumption), (by omega), (by first | assumption | exact SG_0), q4570, gce8, h4559, h4571, a4513, gm⟩, by omega, by omega⟩ (by omega) (by omega))
          · refine wl_of hX hb cL_1107 (rw_iconst (pc' := 1108) rfl ?_)
            exfalso
            omega
      · refine wl_of hX hb cL_1096 (rw_iconst (pc' := 1097) rfl ?_)
        refine wl_of hX hb cL_1097 (rw_goto (p1 := 1101) (by decide) ?_)
        have k4574 : wKI H4281 m = wKI H m := (wKI_fr hW gm f4286 rfl)
        have k4575 : H4281 x 9 = H x 9 := (f4286 x 9 _ gx rfl)
        have k4576 : H4281 m 6 = H m 6 := (f4286 m 6 _ gm rfl)
        have k4577 : H4281 x 11 = H x 11 := (f4286 x 11 _ gx rfl)
        have k4578 : H4281 m 13 = H m 13 := (f4286 m 13 _ gm rfl)
        have k4579 : H4281 x 8 = H x 8 := (f4286 x 8 _ gx rfl)
        have k4580 : H4281 m 3 = H m 3 := (f4286 m 3 _ gm rfl)
        rw [show H4281 0 ((i + 1).toNat) = H 0 ((i + 1).toNat) by omega]
        have h4581 : RB T H4281 m e8 d8 := (RB_fr hW gm f4286 rfl hrb8)
        have h4582 : KNN T H4281 m e8 d8 := (KNN_fr hW gm f4286 rfl hknn8)
        refine wl_of hX hb cL_1101 (xc_V (pc' := 1104) (r := m) (as := [vI (H 0 ((i + 1).toNat)), vI 1]) (st := [vI z4287]) (lm_11_142) rfl rfl (Nat.le_of_ble_eq_true rfl) w4285 gm sh_42 (by decide) rfl (by decide) (u_263 (e := e8) (d := d8) w4285 gm ⟨by omega, by omega⟩ ⟨by decide, by decide⟩ (by omega) (by assumption) (by assumption) (by assumption) (by assumption) h4581 h4582) (fun R4583 T4584 H4585 p4586 => ?_))
        obtain ⟨e4587, w4589, f4590, z4591, e4588, b4592, p4593⟩ := p4586
        subst e4587
        subst e4588
        rcases p4593 with ⟨a4594, a4595, a4596, a4597⟩ | ⟨a4598, a4599, a4600, a4601⟩
        · show WL _ _ _ _ 1104 [(4, vI i), (3, .ref o), (2, .ref m), (1, .ref x), (0, .ref 0)] [vI z4591, vI z4287] _ H4585
          refine wl_of hX hb cL_1104 (rw_icmp_eq (p1 := 1653) (p2 := 1107) (by decide) rfl ⟨b4288.1, b4288.2⟩ ⟨b4592.1, b4592.2⟩ (fun c4602 => ?_) (fun c4602 => ?_))
          · have k4603 : H4585 x 9 = H4281 x 9 := (f4590 x 9 _ gx rfl)
            have k4604 : H4585 m 6 = H4281 m 6 := (f4590 m 6 _ gm rfl)
            have k4605 : H4585 x 11 = H4281 x 11 := (f4590 x 11 _ gx rfl)
            have k4606 : H4585 m 13 = H4281 m 13 := (f4590 m 13 _ gm rfl)
            have k4607 : H4585 x 8 = H4281 x 8 := (f4590 x 8 _ gx rfl)
            have k4608 : H4585 m 3 = H4281 m 3 := (f4590 m 3 _ gm rfl)
            have k4609 : H4585 x 0 = H x 0 := ((f4590 x 0 _ gx rfl).trans (f4286 x 0 _ gx rfl))
            have q4610 : H4585 x 0 = (tc : Int) := k4609.trans e0
            have k4611 : H4585 m 5 = H m 5 := ((f4590 m 5 _ gm rfl).trans (f4286 m 5 _ gm rfl))
            have q4612 : H4585 m 5 = (tm : Int) := k4611.trans em
            have k4613 : H4585 x 6 = H x 6 := ((f4590 x 6 _ gx rfl).trans (f4286 x 6 _ gx rfl))
            have q4614 : H4585 x 6 = (cu : Int) := k4613.trans ecu
            have k4615 : H4585 x 7 = H x 7 := ((f4590 x 7 _ gx rfl).trans (f4286 x 7 _ gx rfl))
            have q4616 : H4585 x 7 = (dr : Int) := k4615.trans edr
            have h4617 : CEN T H4585 ce8 e8 d8 := (CEN_fr w4285 gce8 f4590 rfl a4295)
            have h4618 : TP T H4585 tc B := (TP_fr w4285 gtc f4590 rfl (TP_fr hW gtc f4286 rfl htc))
            have h4619 : TM T H4585 tm B := (TM_fr w4285 gtm f4590 rfl (TM_fr hW gtm f4286 rfl htm))
            have h4620 : DD T H4585 cu  := (DD_fr w4285 gcu f4590 rfl (DD_fr hW gcu f4286 rfl hcu))
            have h4621 : DD T H4585 dr  := (DD_fr w4285 gdr f4590 rfl (DD_fr hW gdr f4286 rfl hdr))
            have h4622 : DE T H4585 cu  := (DE_fr w4285 gcu f4590 rfl (DE_fr hW gcu f4286 rfl hdec))
            have h4623 : DE T H4585 dr  := (DE_fr w4285 gdr f4590 rfl (DE_fr hW gdr f4286 rfl hded))
            have h4624 : SP T H4585 x C8 := (SP_fr w4285 gx f4590 rfl (SP_fr hW gx f4286 rfl hsp))
            have h4625 : CU T H4585 cu e8 d8 n8 := (CU_fr w4285 gcu f4590 rfl (CU_fr hW gcu f4286 rfl hcu8))
            have h4626 : CY T H4585 cu (d8 0 3) g8 (H cu 17) := (CY_fr w4285 gcu f4590 rfl (CY_fr hW gcu f4286 rfl h4274))
            have k4627 : H4585 x 3 = H x 3 := ((f4590 x 3 _ gx rfl).trans (f4286 x 3 _ gx rfl))
            have q4628 : H4585 x 3 = (ce8 : Int) := k4627.trans ece8
            have h4629 : HDR T H4585 ce8  := (HDR_fr w4285 gce8 f4590 rfl (HDR_fr hW gce8 f4286 rfl hhdr8))
            have h4630 : RY T H4585 m (d8 0 3) g8 (H m 32) := (RY_fr w4285 gm f4590 rfl (RY_fr hW gm f4286 rfl h4275))
            have h4631 : RB T H4585 m e8 d8 := (RB_fr w4285 gm f4590 rfl h4581)
            exact WL.loc hX (by simp) (next T H4585 ⟨⟨w4589, g0, gx, gm, go, by omega, by omega⟩, ⟨_, tc, tm, cu, dr, _, _, _, _, _, ce8, q4610, gtc, h4618, q4612, gtm, h4619, q4614, gcu, q4616, gdr, h4620, h4621, h4622, h4623, h4624, hC1, hC2, h4625, h4631, (h4626).1, (h4630).1, hE, hZ, (by omega), (by assumption), (by omega), (by first | assumption | exact SG_0), q4628, gce8, h4617, h4629, a4597, gm⟩, by omega, by omega⟩ (by omega) (by omega))
          · refine wl_of hX hb cL_1107 (rw_iconst (pc' := 1108) rfl ?_)
            exfalso
            omega
        · show WL _ _ _ _ 1104 [(4, vI i), (3, .ref o), (2, .ref m), (1, .ref x), (0, .ref 0)] [vI z4591, vI z4287] _ H4585
          try have _u9 : z4287 = z4591 := XEX_1 (by assumption : XEX _ _ _ _ z4287) (by assumption)
          refine wl_of hX hb cL_1104 (rw_icmp_eq (p1 := 1653) (p2 := 1107) (by decide) rfl ⟨b4288.1, b4288.2⟩ ⟨b4592.1, b4592.2⟩ (fun c4632 => ?_) (fun c4632 => ?_))
          · have k4633 : H4585 x 9 = H4281 x 9 := (f4590 x 9 _ gx rfl)
            have k4634 : H4585 m 6 = H4281 m 6 := (f4590 m 6 _ gm rfl)
            have k4635 : H4585 x 11 = H4281 x 11 := (f4590 x 11 _ gx rfl)
            have k4636 : H4585 m 13 = H4281 m 13 := (f4590 m 13 _ gm rfl)
            have k4637 : H4585 x 8 = H4281 x 8 := (f4590 x 8 _ gx rfl)
            have k4638 : H4585 m 3 = H4281 m 3 := (f4590 m 3 _ gm rfl)
            have k4639 : H4585 x 0 = H x 0 := ((f4590 x 0 _ gx rfl).trans (f4286 x 0 _ gx rfl))
            have q4640 : H4585 x 0 = (tc : Int) := k4639.trans e0
            have k4641 : H4585 m 5 = H m 5 := ((f4590 m 5 _ gm rfl).trans (f4286 m 5 _ gm rfl))
            have q4642 : H4585 m 5 = (tm : Int) := k4641.trans em
            have k4643 : H4585 x 6 = H x 6 := ((f4590 x 6 _ gx rfl).trans (f4286 x 6 _ gx rfl))
            have q4644 : H4585 x 6 = (cu : Int) := k4643.trans ecu
            have k4645 : H4585 x 7 = H x 7 := ((f4590 x 7 _ gx rfl).trans (f4286 x 7 _ gx rfl))
            have q4646 : H4585 x 7 = (dr : Int) := k4645.trans edr
            have h4647 : CEN T H4585 ce8 e8 d8 := (CEN_fr w4285 gce8 f4590 rfl a4295)
            have h4648 : TP T H4585 tc B := (TP_fr w4285 gtc f4590 rfl (TP_fr hW gtc f4286 rfl htc))
            have h4649 : TM T H4585 tm B := (TM_fr w4285 gtm f4590 rfl (TM_fr hW gtm f4286 rfl htm))
            have h4650 : DD T H4585 cu  := (DD_fr w4285 gcu f4590 rfl (DD_fr hW gcu f4286 rfl hcu))
            have h4651 : DD T H4585 dr  := (DD_fr w4285 gdr f4590 rfl (DD_fr hW gdr f4286 rfl hdr))
            have h4652 : DE T H4585 cu  := (DE_fr w4285 gcu f4590 rfl (DE_fr hW gcu f4286 rfl hdec))
            have h4653 : DE T H4585 dr  := (DE_fr w4285 gdr f4590 rfl (DE_fr hW gdr f4286 rfl hded))
            have h4654 : SP T H4585 x C8 := (SP_fr w4285 gx f4590 rfl (SP_fr hW gx f4286 rfl hsp))
            have h4655 : CU T H4585 cu e8 d8 n8 := (CU_fr w4285 gcu f4590 rfl (CU_fr hW gcu f4286 rfl hcu8))
            have h4656 : CY T H4585 cu (d8 0 3) g8 (H cu 17) := (CY_fr w4285 gcu f4590 rfl (CY_fr hW gcu f4286 rfl h4274))
            have k4657 : H4585 x 3 = H x 3 := ((f4590 x 3 _ gx rfl).trans (f4286 x 3 _ gx rfl))
            have q4658 : H4585 x 3 = (ce8 : Int) := k4657.trans ece8
            have h4659 : HDR T H4585 ce8  := (HDR_fr w4285 gce8 f4590 rfl (HDR_fr hW gce8 f4286 rfl hhdr8))
            have h4660 : RY T H4585 m (d8 0 3) g8 (H m 32) := (RY_fr w4285 gm f4590 rfl (RY_fr hW gm f4286 rfl h4275))
            have h4661 : RB T H4585 m e8 d8 := (RB_fr w4285 gm f4590 rfl h4581)
            exact WL.loc hX (by simp) (next T H4585 ⟨⟨w4589, g0, gx, gm, go, by omega, by omega⟩, ⟨_, tc, tm, cu, dr, _, _, _, _, _, ce8, q4640, gtc, h4648, q4642, gtm, h4649, q4644, gcu, q4646, gdr, h4650, h4651, h4652, h4653, h4654, hC1, hC2, h4655, h4661, (h4656).1, (h4660).1, hE, hZ, (by omega), (by assumption), (by omega), (by first | assumption | exact SG_0), q4658, gce8, h4647, h4659, a4601, gm⟩, by omega, by omega⟩ (by omega) (by omega))
          · refine wl_of hX hb cL_1107 (rw_iconst (pc' := 1108) rfl ?_)
            exfalso
            omega
