/-! THE LAW, GONE ON WITH (own work) -/
set_option maxHeartbeats 4000000 in
theorem wl_c22 {kt : Nat → Option mc_E} {CB SB : Nat} {X : mc_S → Prop} {T : wq_T} {H : wq_H} {Len x m o : Nat} {i : Int} (hX : wlX kt CB SB X) (hb : T.2.1 ≤ CB ∧ T.2.2.1 ≤ SB) (hI : wlJ Len x m o T H) (hL : Len ≤ 3072) (hi : 0 ≤ i ∧ i + 6 ≤ Len) (hb2 : T.2.1 + 20 ≤ CB ∧ T.2.2.1 + 500 ≤ SB)  (next : ∀ T' H', wlJ Len x m o T' H' → T'.2.1 ≤ T.2.1 + 20 → T'.2.2.1 ≤ T.2.2.1 + 500 → WL kt CB SB X 1654 (wlL i x m o) [] T' H') : WL kt CB SB X 882 (wlL i x m o) [] T H := by
  obtain ⟨⟨hW, g0, gx, gm, go, hK, hr⟩, hXI, hY1, hY2⟩ := hI
  refine wl_of hX hb cL_882 (rw_aload_n (pc' := 883) (v := .ref x) rfl rfl rfl ?_)
  refine wl_of hX hb cL_883 (rw_aload_n (pc' := 884) (v := .ref 0) rfl rfl rfl ?_)
  refine wl_of hX hb cL_884 (rw_iload (pc' := 886) (z := i) rfl rfl ?_)
  refine wl_of hX hb cL_886 (rw_iconst (pc' := 887) rfl ?_)
  refine wl_of hX hb cL_887 (rw_iadd (pc' := 888) rfl ?_)
  refine wl_of hX hb cL_888 (xa_I (so := 0) (pc' := 889) (a := 0) hW g0 (wsh_s _) (by omega) (wty_s _ _) (by omega) (by omega) rfl (fun b3601 b3602 => ?_))
  refine wl_of hX hb cL_889 (rw_aload_n (pc' := 890) (v := .ref 0) rfl rfl rfl ?_)
  refine wl_of hX hb cL_890 (rw_iload (pc' := 892) (z := i) rfl rfl ?_)
  refine wl_of hX hb cL_892 (rw_iconst (pc' := 893) rfl ?_)
  refine wl_of hX hb cL_893 (rw_iadd (pc' := 894) rfl ?_)
  refine wl_of hX hb cL_894 (xa_I (so := 0) (pc' := 895) (a := 0) hW g0 (wsh_s _) (by omega) (wty_s _ _) (by omega) (by omega) rfl (fun b3603 b3604 => ?_))
  obtain ⟨B, tc, tm, cu, dr, C8, e8, d8, n8, g8, ce8, e0, gtc, htc, em, gtm, htm, ecu, gcu, edr, gdr, hcu, hdr, hdec, hded, hsp, hC1, hC2, hcu8, hrb8, hcg8, hmn8, hE, hZ, hn8, hXA, hV8, hSG, ece8, gce8, hcen8, hhdr8, hknn8, -⟩ := hXI
  have hN3 := RB_n3 hrb8
  have hE13 : ∀ h : Nat, h < 24 → 0 ≤ e8 13 h ∧ e8 13 h ≤ 100 := fun k hk => by
    obtain ⟨s, h1, h2, h3⟩ := hcu8.1.2.2.1
    exact ⟨(h3 k hk).1, (h3 k hk).2.1⟩
  have hXW := hXA.1
  have hXN := hXA.2
  have hE0 : e8 0 3 = d8 0 3 ∧ e8 0 0 = d8 0 0 := by
    have h := hE 0 (by decide)
    exact ⟨congrFun h 3, congrFun h 0⟩
  have u3605 := CU_k hcu8
  have h3606 : CY T H cu (d8 0 3) g8 (H cu 17) := ⟨hcg8, rfl⟩
  have h3607 : RY T H m (d8 0 3) g8 (H m 32) := ⟨hmn8, rfl⟩
  obtain ⟨t9, ht9⟩ : ∃ t : Int, t = H x 9 := ⟨_, rfl⟩
  obtain ⟨y9, hy9⟩ : ∃ y : Int, y = H 0 ((i + 2).toNat) := ⟨_, rfl⟩
  obtain ⟨r3608, q3609, g3610⟩ := hW.ref gx (t' := 6) (n := 13) (j := 2) (p := 0) (q := 0) rfl (by decide) rfl
  refine wl_of hX hb cL_895 (xc_V (pc' := 898) (r := x) (as := [vI (H 0 ((i + 1).toNat)), vI (H 0 ((i + 2).toNat))]) (st := []) (lm_11_114) rfl rfl (Nat.le_of_ble_eq_true rfl) hW gx sh_1 (by decide) rfl (by decide) (u_105 (e := e8) (d := d8) (n := n8) hW gx ⟨by omega, by omega⟩ ⟨by omega, by omega⟩ ecu gcu q3609 g3610 ece8 gce8 (by assumption) (by assumption) (by omega) (by omega) (by omega) (by omega) hcu8 hcen8 hhdr8) (fun R3611 T3612 H3613 p3614 => ?_))
  obtain ⟨e3615, w3617, f3618, z3619, e3616, b3620, p3621⟩ := p3614
  subst e3615
  subst e3616
  show WL _ _ _ _ 898 [(4, vI i), (3, .ref o), (2, .ref m), (1, .ref x), (0, .ref 0)] [vI z3619] _ H3613
  refine wl_of hX hb cL_898 (rw_pop (pc' := 899) rfl rfl ?_)
  refine wl_of hX hb cL_899 (rw_aload_n (pc' := 900) (v := .ref m) rfl rfl rfl ?_)
  refine wl_of hX hb cL_900 (rw_aload_n (pc' := 901) (v := .ref 0) rfl rfl rfl ?_)
  refine wl_of hX hb cL_901 (rw_iload (pc' := 903) (z := i) rfl rfl ?_)
  refine wl_of hX hb cL_903 (rw_iconst (pc' := 904) rfl ?_)
  refine wl_of hX hb cL_904 (rw_iadd (pc' := 905) rfl ?_)
  have k3625 : H3613 0 ((i + 1).toNat) = H 0 ((i + 1).toNat) := (f3618 0 ((i + 1).toNat) _ g0 (wmem_s rfl))
  refine wl_of hX hb cL_905 (xa_I (so := 0) (pc' := 906) (a := 0) w3617 g0 (wsh_s _) (by omega) (wty_s _ _) (by omega) (by omega) rfl (fun b3623 b3624 => ?_))
  refine wl_of hX hb cL_906 (rw_aload_n (pc' := 907) (v := .ref 0) rfl rfl rfl ?_)
  refine wl_of hX hb cL_907 (rw_iload (pc' := 909) (z := i) rfl rfl ?_)
  refine wl_of hX hb cL_909 (rw_iconst (pc' := 910) rfl ?_)
  refine wl_of hX hb cL_910 (rw_iadd (pc' := 911) rfl ?_)
  have k3628 : H3613 0 ((i + 2).toNat) = H 0 ((i + 2).toNat) := (f3618 0 ((i + 2).toNat) _ g0 (wmem_s rfl))
  refine wl_of hX hb cL_911 (xa_I (so := 0) (pc' := 912) (a := 0) w3617 g0 (wsh_s _) (by omega) (wty_s _ _) (by omega) (by omega) rfl (fun b3626 b3627 => ?_))
  have k3629 : wKI H3613 m = wKI H m := (wKI_fr hW gm f3618 rfl)
  have k3630 : H3613 x 9 = H x 9 := (f3618 x 9 _ gx rfl)
  have k3631 : H3613 m 6 = H m 6 := (f3618 m 6 _ gm rfl)
  have k3632 : H3613 x 11 = H x 11 := (f3618 x 11 _ gx rfl)
  have k3633 : H3613 m 13 = H m 13 := (f3618 m 13 _ gm rfl)
  have k3634 : H3613 x 8 = H x 8 := (f3618 x 8 _ gx rfl)
  have k3635 : H3613 m 3 = H m 3 := (f3618 m 3 _ gm rfl)
  rw [show H3613 0 ((i + 2).toNat) = H 0 ((i + 2).toNat) by omega]
  rw [show H3613 0 ((i + 1).toNat) = H 0 ((i + 1).toNat) by omega]
  have h3636 : RB T H3613 m e8 d8 := (RB_fr hW gm f3618 rfl hrb8)
  have h3637 : KNN T H3613 m e8 d8 := (KNN_fr hW gm f3618 rfl hknn8)
  refine wl_of hX hb cL_912 (xc_V (pc' := 915) (r := m) (as := [vI (H 0 ((i + 1).toNat)), vI (H 0 ((i + 2).toNat))]) (st := []) (lm_11_117) rfl rfl (Nat.le_of_ble_eq_true rfl) w3617 gm sh_42 (by decide) rfl (by decide) (u_255 (e := e8) (d := d8) w3617 gm ⟨by omega, by omega⟩ ⟨by omega, by omega⟩ (by omega) (by assumption) (by assumption) (by assumption) (by assumption) h3636 h3637) (fun R3638 T3639 H3640 p3641 => ?_))
  obtain ⟨e3642, w3644, f3645, z3646, e3643, b3647, p3648⟩ := p3641
  subst e3642
  subst e3643
  obtain ⟨a3649, a3650⟩ := p3648
  show WL _ _ _ _ 915 [(4, vI i), (3, .ref o), (2, .ref m), (1, .ref x), (0, .ref 0)] [vI z3646] _ H3640
  refine wl_of hX hb cL_915 (rw_pop (pc' := 916) rfl rfl ?_)
  refine wl_of hX hb cL_916 (rw_goto (p1 := 1654) (by decide) ?_)
  have k3651 : H3640 x 9 = H3613 x 9 := (f3645 x 9 _ gx rfl)
  have k3652 : H3640 m 6 = H3613 m 6 := (f3645 m 6 _ gm rfl)
  have k3653 : H3640 x 11 = H3613 x 11 := (f3645 x 11 _ gx rfl)
  have k3654 : H3640 m 13 = H3613 m 13 := (f3645 m 13 _ gm rfl)
  have k3655 : H3640 x 8 = H3613 x 8 := (f3645 x 8 _ gx rfl)
  have k3656 : H3640 m 3 = H3613 m 3 := (f3645 m 3 _ gm rfl)
  have k3657 : H3640 x 0 = H x 0 := ((f3645 x 0 _ gx rfl).trans (f3618 x 0 _ gx rfl))
  have q3658 : H3640 x 0 = (tc : Int) := k3657.trans e0
  have k3659 : H3640 m 5 = H m 5 := ((f3645 m 5 _ gm rfl).trans (f3618 m 5 _ gm rfl))
  have q3660 : H3640 m 5 = (tm : Int) := k3659.trans em
  have k3661 : H3640 x 6 = H x 6 := ((f3645 x 6 _ gx rfl).trans (f3618 x 6 _ gx rfl))
  have q3662 : H3640 x 6 = (cu : Int) := k3661.trans ecu
  have k3663 : H3640 x 7 = H x 7 := ((f3645 x 7 _ gx rfl).trans (f3618 x 7 _ gx rfl))
  have q3664 : H3640 x 7 = (dr : Int) := k3663.trans edr
  have h3665 : CEN T H3640 ce8 e8 d8 := (CEN_fr w3617 gce8 f3645 rfl p3621)
  have h3666 : TP T H3640 tc B := (TP_fr w3617 gtc f3645 rfl (TP_fr hW gtc f3618 rfl htc))
  have h3667 : TM T H3640 tm B := (TM_fr w3617 gtm f3645 rfl (TM_fr hW gtm f3618 rfl htm))
  have h3668 : DD T H3640 cu  := (DD_fr w3617 gcu f3645 rfl (DD_fr hW gcu f3618 rfl hcu))
  have h3669 : DD T H3640 dr  := (DD_fr w3617 gdr f3645 rfl (DD_fr hW gdr f3618 rfl hdr))
  have h3670 : DE T H3640 cu  := (DE_fr w3617 gcu f3645 rfl (DE_fr hW gcu f3618 rfl hdec))
  have h3671 : DE T H3640 dr  := (DE_fr w3617 gdr f3645 rfl (DE_fr hW gdr f3618 rfl hded))
  have h3672 : SP T H3640 x C8 := (SP_fr w3617 gx f3645 rfl (SP_fr hW gx f3618 rfl hsp))
  have h3673 : CU T H3640 cu e8 d8 n8 := (CU_fr w3617 gcu f3645 rfl (CU_fr hW gcu f3618 rfl hcu8))
  have h3674 : CY T H3640 cu (d8 0 3) g8 (H cu 17) := (CY_fr w3617 gcu f3645 rfl (CY_fr hW gcu f3618 rfl h3606))
  have k3675 : H3640 x 3 = H x 3 := ((f3645 x 3 _ gx rfl).trans (f3618 x 3 _ gx rfl))
  have q3676 : H3640 x 3 = (ce8 : Int) := k3675.trans ece8
  have h3677 : HDR T H3640 ce8  := (HDR_fr w3617 gce8 f3645 rfl (HDR_fr hW gce8 f3618 rfl hhdr8))
  have h3678 : RY T H3640 m (d8 0 3) g8 (H m 32) := (RY_fr w3617 gm f3645 rfl (RY_fr hW gm f3618 rfl h3607))
  have h3679 : RB T H3640 m e8 d8 := (RB_fr w3617 gm f3645 rfl h3636)
  exact WL.loc hX (by simp) (next T H3640 ⟨⟨w3644, g0, gx, gm, go, by omega, by omega⟩, ⟨_, tc, tm, cu, dr, _, _, _, _, _, ce8, q3658, gtc, h3666, q3660, gtm, h3667, q3662, gcu, q3664, gdr, h3668, h3669, h3670, h3671, h3672, hC1, hC2, h3673, h3679, (h3674).1, (h3678).1, hE, hZ, (by omega), (by assumption), (by omega), (by first | assumption | exact SG_0), q3676, gce8, h3665, h3677, a3650, gm⟩, by omega, by omega⟩ (by omega) (by omega))
set_option maxHeartbeats 4000000 in
theorem wl_c23 {kt : Nat → Option mc_E} {CB SB : Nat} {X : mc_S → Prop} {T : wq_T} {H : wq_H} {Len x m o : Nat} {i : Int} (hX : wlX kt CB SB X) (hb : T.2.1 ≤ CB ∧ T.2.2.1 ≤ SB) (hI : wlJ Len x m o T H) (hL : Len ≤ 3072) (hi : 0 ≤ i ∧ i + 6 ≤ Len) (hb2 : T.2.1 + 20 ≤ CB ∧ T.2.2.1 + 500 ≤ SB)  (next : ∀ T' H', wlJ Len x m o T' H' → T'.2.1 ≤ T.2.1 + 20 → T'.2.2.1 ≤ T.2.2.1 + 500 → WL kt CB SB X 1654 (wlL i x m o) [] T' H') : WL kt CB SB X 919 (wlL i x m o) [] T H := by
  obtain ⟨⟨hW, g0, gx, gm, go, hK, hr⟩, hXI, hY1, hY2⟩ := hI
  refine wl_of hX hb cL_919 (rw_aload_n (pc' := 920) (v := .ref x) rfl rfl rfl ?_)
  refine wl_of hX hb cL_920 (rw_aload_n (pc' := 921) (v := .ref 0) rfl rfl rfl ?_)
  refine wl_of hX hb cL_921 (rw_iload (pc' := 923) (z := i) rfl rfl ?_)
  refine wl_of hX hb cL_923 (rw_iconst (pc' := 924) rfl ?_)
  refine wl_of hX hb cL_924 (rw_iadd (pc' := 925) rfl ?_)
  refine wl_of hX hb cL_925 (xa_I (so := 0) (pc' := 926) (a := 0) hW g0 (wsh_s _) (by omega) (wty_s _ _) (by omega) (by omega) rfl (fun b3680 b3681 => ?_))
  obtain ⟨B, tc, tm, cu, dr, C8, e8, d8, n8, g8, ce8, e0, gtc, htc, em, gtm, htm, ecu, gcu, edr, gdr, hcu, hdr, hdec, hded, hsp, hC1, hC2, hcu8, hrb8, hcg8, hmn8, hE, hZ, hn8, hXA, hV8, hSG, ece8, gce8, hcen8, hhdr8, hknn8, -⟩ := hXI
  have hN3 := RB_n3 hrb8
  have hE13 : ∀ h : Nat, h < 24 → 0 ≤ e8 13 h ∧ e8 13 h ≤ 100 := fun k hk => by
    obtain ⟨s, h1, h2, h3⟩ := hcu8.1.2.2.1
    exact ⟨(h3 k hk).1, (h3 k hk).2.1⟩
  have hXW := hXA.1
  have hXN := hXA.2
  have hE0 : e8 0 3 = d8 0 3 ∧ e8 0 0 = d8 0 0 := by
    have h := hE 0 (by decide)
    exact ⟨congrFun h 3, congrFun h 0⟩
  have u3682 := CU_k hcu8
  have h3683 : CY T H cu (d8 0 3) g8 (H cu 17) := ⟨hcg8, rfl⟩
  have h3684 : RY T H m (d8 0 3) g8 (H m 32) := ⟨hmn8, rfl⟩
  obtain ⟨t9, ht9⟩ : ∃ t : Int, t = H x 9 := ⟨_, rfl⟩
  obtain ⟨y9, hy9⟩ : ∃ y : Int, y = H 0 ((i + 1).toNat) := ⟨_, rfl⟩
  obtain ⟨r3685, q3686, g3687⟩ := hW.ref gx (t' := 6) (n := 13) (j := 2) (p := 0) (q := 0) rfl (by decide) rfl
  refine wl_of hX hb cL_926 (xc_V (pc' := 929) (r := x) (as := [vI (H 0 ((i + 1).toNat))]) (st := []) (lm_11_118) rfl rfl (Nat.le_of_ble_eq_true rfl) hW gx sh_1 (by decide) rfl (by decide) (u_107 (e := e8) (d := d8) (n := n8) hW gx ⟨by omega, by omega⟩ ecu gcu q3686 g3687 ece8 gce8 (by assumption) (by assumption) (by omega) (by omega) (by omega) (by omega) hcu8 hcen8 hhdr8) (fun R3688 T3689 H3690 p3691 => ?_))
  obtain ⟨e3692, w3694, f3695, z3696, e3693, b3697, p3698⟩ := p3691
  subst e3692
  subst e3693
  show WL _ _ _ _ 929 [(4, vI i), (3, .ref o), (2, .ref m), (1, .ref x), (0, .ref 0)] [vI z3696] _ H3690
  refine wl_of hX hb cL_929 (rw_pop (pc' := 930) rfl rfl ?_)
  refine wl_of hX hb cL_930 (rw_aload_n (pc' := 931) (v := .ref m) rfl rfl rfl ?_)
  refine wl_of hX hb cL_931 (rw_aload_n (pc' := 932) (v := .ref 0) rfl rfl rfl ?_)
  refine wl_of hX hb cL_932 (rw_iload (pc' := 934) (z := i) rfl rfl ?_)
  refine wl_of hX hb cL_934 (rw_iconst (pc' := 935) rfl ?_)
  refine wl_of hX hb cL_935 (rw_iadd (pc' := 936) rfl ?_)
  have k3702 : H3690 0 ((i + 1).toNat) = H 0 ((i + 1).toNat) := (f3695 0 ((i + 1).toNat) _ g0 (wmem_s rfl))
  refine wl_of hX hb cL_936 (xa_I (so := 0) (pc' := 937) (a := 0) w3694 g0 (wsh_s _) (by omega) (wty_s _ _) (by omega) (by omega) rfl (fun b3700 b3701 => ?_))
  have k3703 : wKI H3690 m = wKI H m := (wKI_fr hW gm f3695 rfl)
  have k3704 : H3690 x 9 = H x 9 := (f3695 x 9 _ gx rfl)
  have k3705 : H3690 m 6 = H m 6 := (f3695 m 6 _ gm rfl)
  have k3706 : H3690 x 11 = H x 11 := (f3695 x 11 _ gx rfl)
  have k3707 : H3690 m 13 = H m 13 := (f3695 m 13 _ gm rfl)
  have k3708 : H3690 x 8 = H x 8 := (f3695 x 8 _ gx rfl)
  have k3709 : H3690 m 3 = H m 3 := (f3695 m 3 _ gm rfl)
  rw [show H3690 0 ((i + 1).toNat) = H 0 ((i + 1).toNat) by omega]
  have h3710 : RB T H3690 m e8 d8 := (RB_fr hW gm f3695 rfl hrb8)
  have h3711 : KNN T H3690 m e8 d8 := (KNN_fr hW gm f3695 rfl hknn8)
  refine wl_of hX hb cL_937 (xc_V (pc' := 940) (r := m) (as := [vI (H 0 ((i + 1).toNat))]) (st := []) (lm_11_121) rfl rfl (Nat.le_of_ble_eq_true rfl) w3694 gm sh_42 (by decide) rfl (by decide) (u_256 (e := e8) (d := d8) w3694 gm ⟨by omega, by omega⟩ (by omega) (by assumption) (by assumption) (by assumption) (by assumption) h3710 h3711) (fun R3712 T3713 H3714 p3715 => ?_))
  obtain ⟨e3716, w3718, f3719, z3720, e3717, b3721, p3722⟩ := p3715
  subst e3716
  subst e3717
  obtain ⟨a3723, a3724⟩ := p3722
  show WL _ _ _ _ 940 [(4, vI i), (3, .ref o), (2, .ref m), (1, .ref x), (0, .ref 0)] [vI z3720] _ H3714
  refine wl_of hX hb cL_940 (rw_pop (pc' := 941) rfl rfl ?_)
  refine wl_of hX hb cL_941 (rw_goto (p1 := 1654) (by decide) ?_)
  have k3725 : H3714 x 9 = H3690 x 9 := (f3719 x 9 _ gx rfl)
  have k3726 : H3714 m 6 = H3690 m 6 := (f3719 m 6 _ gm rfl)
  have k3727 : H3714 x 11 = H3690 x 11 := (f3719 x 11 _ gx rfl)
  have k3728 : H3714 m 13 = H3690 m 13 := (f3719 m 13 _ gm rfl)
  have k3729 : H3714 x 8 = H3690 x 8 := (f3719 x 8 _ gx rfl)
  have k3730 : H3714 m 3 = H3690 m 3 := (f3719 m 3 _ gm rfl)
  have k3731 : H3714 x 0 = H x 0 := ((f3719 x 0 _ gx rfl).trans (f3695 x 0 _ gx rfl))
  have q3732 : H3714 x 0 = (tc : Int) := k3731.trans e0
  have k3733 : H3714 m 5 = H m 5 := ((f3719 m 5 _ gm rfl).trans (f3695 m 5 _ gm rfl))
  have q3734 : H3714 m 5 = (tm : Int) := k3733.trans em
  have k3735 : H3714 x 6 = H x 6 := ((f3719 x 6 _ gx rfl).trans (f3695 x 6 _ gx rfl))
  have q3736 : H3714 x 6 = (cu : Int) := k3735.trans ecu
  have k3737 : H3714 x 7 = H x 7 := ((f3719 x 7 _ gx rfl).trans (f3695 x 7 _ gx rfl))
  have q3738 : H3714 x 7 = (dr : Int) := k3737.trans edr
  have h3739 : CEN T H3714 ce8 e8 d8 := (CEN_fr w3694 gce8 f3719 rfl p3698)
  have h3740 : TP T H3714 tc B := (TP_fr w3694 gtc f3719 rfl (TP_fr hW gtc f3695 rfl htc))
  have h3741 : TM T H3714 tm B := (TM_fr w3694 gtm f3719 rfl (TM_fr hW gtm f3695 rfl htm))
  have h3742 : DD T H3714 cu  := (DD_fr w3694 gcu f3719 rfl (DD_fr hW gcu f3695 rfl hcu))
  have h3743 : DD T H3714 dr  := (DD_fr w3694 gdr f3719 rfl (DD_fr hW gdr f3695 rfl hdr))
  have h3744 : DE T H3714 cu  := (DE_fr w3694 gcu f3719 rfl (DE_fr hW gcu f3695 rfl hdec))
  have h3745 : DE T H3714 dr  := (DE_fr w3694 gdr f3719 rfl (DE_fr hW gdr f3695 rfl hded))
  have h3746 : SP T H3714 x C8 := (SP_fr w3694 gx f3719 rfl (SP_fr hW gx f3695 rfl hsp))
  have h3747 : CU T H3714 cu e8 d8 n8 := (CU_fr w3694 gcu f3719 rfl (CU_fr hW gcu f3695 rfl hcu8))
  have h3748 : CY T H3714 cu (d8 0 3) g8 (H cu 17) := (CY_fr w3694 gcu f3719 rfl (CY_fr hW gcu f3695 rfl h3683))
  have k3749 : H3714 x 3 = H x 3 := ((f3719 x 3 _ gx rfl).trans (f3695 x 3 _ gx rfl))
  have q3750 : H3714 x 3 = (ce8 : Int) := k3749.trans ece8
  have h3751 : HDR T H3714 ce8  := (HDR_fr w3694 gce8 f3719 rfl (HDR_fr hW gce8 f3695 rfl hhdr8))
  have h3752 : RY T H3714 m (d8 0 3) g8 (H m 32) := (RY_fr w3694 gm f3719 rfl (RY_fr hW gm f3695 rfl h3684))
  have h3753 : RB T H3714 m e8 d8 := (RB_fr w3694 gm f3719 rfl h3710)
  exact WL.loc hX (by simp) (next T H3714 ⟨⟨w3718, g0, gx, gm, go, by omega, by omega⟩, ⟨_, tc, tm, cu, dr, _, _, _, _, _, ce8, q3732, gtc, h3740, q3734, gtm, h3741, q3736, gcu, q3738, gdr, h3742, h3743, h3744, h3745, h3746, hC1, hC2, h3747, h3753, (h3748).1, (h3752).1, hE, hZ, (by omega), (by assumption), (by omega), (by first | assumption | exact SG_0), q3750, gce8, h3739, h3751, a3724, gm⟩, by omega, by omega⟩ (by omega) (by omega))
set_option maxHeartbeats 4000000 in
theorem wl_c24 {kt : Nat → Option mc_E} {CB SB : Nat} {X : mc_S → Prop} {T : wq_T} {H : wq_H} {Len x m o : Nat} {i : Int} (hX : wlX kt CB SB X) (hb : T.2.1 ≤ CB ∧ T.2.2.1 ≤ SB) (hI : wlJ Len x m o T H) (hL : Len ≤ 3072) (hi : 0 ≤ i ∧ i + 6 ≤ Len) (hb2 : T.2.1 + 20 ≤ CB ∧ T.2.2.1 + 500 ≤ SB)  (next : ∀ T' H', wlJ Len x m o T' H' → T'.2.1 ≤ T.2.1 + 20 → T'.2.2.1 ≤ T.2.2.1 + 500 → WL kt CB SB X 1654 (wlL i x m o) [] T' H') : WL kt CB SB X 944 (wlL i x m o) [] T H := by
  obtain ⟨⟨hW, g0, gx, gm, go, hK, hr⟩, hXI, hY1, hY2⟩ := hI
  refine wl_of hX hb cL_944 (rw_aload_n (pc' := 945) (v := .ref x) rfl rfl rfl ?_)
  obtain ⟨B, tc, tm, cu, dr, C8, e8, d8, n8, g8, ce8, e0, gtc, htc, em, gtm, htm, ecu, gcu, edr, gdr, hcu, hdr, hdec, hded, hsp, hC1, hC2, hcu8, hrb8, hcg8, hmn8, hE, hZ, hn8, hXA, hV8, hSG, ece8, gce8, hcen8, hhdr8, hknn8, -⟩ := hXI
  have hN3 := RB_n3 hrb8
  have hE13 : ∀ h : Nat, h < 24 → 0 ≤ e8 13 h ∧ e8 13 h ≤ 100 := fun k hk => by
    obtain ⟨s, h1, h2, h3⟩ := hcu8.1.2.2.1
    exact ⟨(h3 k hk).1, (h3 k hk).2.1⟩
  have hXW := hXA.1
  have hXN := hXA.2
  have hE0 : e8 0 3 = d8 0 3 ∧ e8 0 0 = d8 0 0 := by
    have h := hE 0 (by decide)
    exact ⟨congrFun h 3, congrFun h 0⟩
  have u3754 := CU_k hcu8
  have h3755 : CY T H cu (d8 0 3) g8 (H cu 17) := ⟨hcg8, rfl⟩
  have h3756 : RY T H m (d8 0 3) g8 (H m 32) := ⟨hmn8, rfl⟩
  obtain ⟨t9, ht9⟩ : ∃ t : Int, t = H x 9 := ⟨_, rfl⟩
  obtain ⟨r3757, q3758, g3759⟩ := hW.ref gx (t' := 6) (n := 13) (j := 2) (p := 0) (q := 0) rfl (by decide) rfl
  refine wl_of hX hb cL_945 (xc_V (pc' := 948) (r := x) (as := []) (st := []) (lm_11_122) rfl rfl (Nat.le_of_ble_eq_true rfl) hW gx sh_1 (by decide) rfl (by decide) (u_108 (e := e8) (d := d8) (n := n8) hW gx ecu gcu q3758 g3759 ece8 gce8 (by assumption) (by assumption) (by omega) (by omega) (by omega) (by omega) hcu8 hcen8 hhdr8) (fun R3760 T3761 H3762 p3763 => ?_))
  obtain ⟨e3764, w3766, f3767, z3768, e3765, b3769, p3770⟩ := p3763
  subst e3764
  subst e3765
  rcases p3770 with ⟨a3771, a3772, a3773⟩ | ⟨a3774, a3775, a3776⟩
  · show WL _ _ _ _ 948 [(4, vI i), (3, .ref o), (2, .ref m), (1, .ref x), (0, .ref 0)] [vL z3768] _ H3762
    refine wl_of hX hb cL_948 (rw_aload_n (pc' := 949) (v := .ref m) rfl rfl rfl ?_)
    have k3777 : wKI H3762 m = wKI H m := (wKI_fr hW gm f3767 rfl)
    have k3778 : H3762 x 9 = H x 9 := (f3767 x 9 _ gx rfl)
    have k3779 : H3762 m 6 = H m 6 := (f3767 m 6 _ gm rfl)
    have k3780 : H3762 x 11 = H x 11 := (f3767 x 11 _ gx rfl)
    have k3781 : H3762 m 13 = H m 13 := (f3767 m 13 _ gm rfl)
    have k3782 : H3762 x 8 = H x 8 := (f3767 x 8 _ gx rfl)
    have k3783 : H3762 m 3 = H m 3 := (f3767 m 3 _ gm rfl)
    have h3784 : RB T H3762 m e8 d8 := (RB_fr hW gm f3767 rfl hrb8)
    have h3785 : KNN T H3762 m e8 d8 := (KNN_fr hW gm f3767 rfl hknn8)
    refine wl_of hX hb cL_949 (xc_V (pc' := 952) (r := m) (as := []) (st := [vL z3768]) (lm_11_125) rfl rfl (Nat.le_of_ble_eq_true rfl) w3766 gm sh_42 (by decide) rfl (by decide) (u_258 (e := e8) (d := d8) w3766 gm (by omega) (by assumption) (by assumption) (by assumption) (by assumption) h3784 h3785) (fun R3786 T3787 H3788 p3789 => ?_))
    obtain ⟨e3790, w3792, f3793, z3794, e3791, b3795, p3796⟩ := p3789
    subst e3790
    subst e3791
    rcases p3796 with ⟨a3797, a3798, a3799, a3800⟩ | ⟨a3801, a3802, a3803, a3804⟩
    · show WL _ _ _ _ 952 [(4, vI i), (3, .ref o), (2, .ref m), (1, .ref x), (0, .ref 0)] [vL z3794, vL z3768] _ H3788
      refine wl_of hX hb cL_952 (rw_lcmp (pc' := 953) rfl ⟨b3769.1, b3769.2⟩ ⟨b3795.1, b3795.2⟩ ?_)
      have b3805 := wq_cmp_b z3768 z3794
      refine wl_of hX hb cL_953 (rw_if_eq (p1 := 1654) (p2 := 956) (by decide) rfl ⟨by omega, by omega⟩ (fun c3806 => ?_) (fun c3806 => ?_))
      · have k3807 : H3788 x 9 = H3762 x 9 := (f3793 x 9 _ gx rfl)
        have k3808 : H3788 m 6 = H3762 m 6 := (f3793 m 6 _ gm rfl)
        have k3809 : H3788 x 11 = H3762 x 11 := (f3793 x 11 _ gx rfl)
        have k3810 : H3788 m 13 = H3762 m 13 := (f3793 m 13 _ gm rfl)
        have k3811 : H3788 x 8 = H3762 x 8 := (f3793 x 8 _ gx rfl)
        have k3812 : H3788 m 3 = H3762 m 3 := (f3793 m 3 _ gm rfl)
        have k3813 : H3788 x 0 = H x 0 := ((f3793 x 0 _ gx rfl).trans (f3767 x 0 _ gx rfl))
        have q3814 : H3788 x 0 = (tc : Int) := k3813.trans e0
        have k3815 : H3788 m 5 = H m 5 := ((f3793 m 5 _ gm rfl).trans (f3767 m 5 _ gm rfl))
        have q3816 : H3788 m 5 = (tm : Int) := k3815.trans em
        have k3817 : H3788 x 6 = H x 6 := ((f3793 x 6 _ gx rfl).trans (f3767 x 6 _ gx rfl))
        have q3818 : H3788 x 6 = (cu : Int) := k3817.trans ecu
        have k3819 : H3788 x 7 = H x 7 := ((f3793 x 7 _ gx rfl).trans (f3767 x 7 _ gx rfl))
        have q3820 : H3788 x 7 = (dr : Int) := k3819.trans edr
        have h3821 : CEN T H3788 ce8 e8 d8 := (CEN_fr w3766 gce8 f3793 rfl a3773)
        have h3822 : TP T H3788 tc B := (TP_fr w3766 gtc f3793 rfl (TP_fr hW gtc f3767 rfl htc))
        have h3823 : TM T H3788 tm B := (TM_fr w3766 gtm f3793 rfl (TM_fr hW gtm f3767 rfl htm))
        have h3824 : DD T H3788 cu  := (DD_fr w3766 gcu f3793 rfl (DD_fr hW gcu f3767 rfl hcu))
        have h3825 : DD T H3788 dr  := (DD_fr w3766 gdr f3793 rfl (DD_fr hW gdr f3767 rfl hdr))
        have h3826 : DE T H3788 cu  := (DE_fr w3766 gcu f3793 rfl (DE_fr hW gcu f3767 rfl hdec))
        have h3827 : DE T H3788 dr  := (DE_fr w3766 gdr f3793 rfl (DE_fr hW gdr f3767 rfl hded))
        have h3828 : SP T H3788 x C8 := (SP_fr w3766 gx f3793 rfl (SP_fr hW gx f3767 rfl hsp))
        have h3829 : CU T H3788 cu e8 d8 n8 := (CU_fr w3766 gcu f3793 rfl (CU_fr hW gcu f3767 rfl hcu8))
        have h3830 : CY T H3788 cu (d8 0 3) g8 (H cu 17) := (CY_fr w3766 gcu f3793 rfl (CY_fr hW gcu f3767 rfl h3755))
        have k3831 : H3788 x 3 = H x 3 := ((f3793 x 3 _ gx rfl).trans (f3767 x 3 _ gx rfl))
        have q3832 : H3788 x 3 = (ce8 : Int) := k3831.trans ece8
        have h3833 : HDR T H3788 ce8  := (HDR_fr w3766 gce8 f3793 rfl (HDR_fr hW gce8 f3767 rfl hhdr8))
        have h3834 : RY T H3788 m (d8 0 3) g8 (H m 32) := (RY_fr w3766 gm f3793 rfl (RY_fr hW gm f3767 rfl h3756))
        have h3835 : RB T H3788 m e8 d8 := (RB_fr w3766 gm f3793 rfl h3784)
        exact WL.loc hX (by simp) (next T H3788 ⟨⟨w3792, g0, gx, gm, go, by omega, by omega⟩, ⟨_, tc, tm, cu, dr, _, _, _, _, _, ce8, q3814, gtc, h3822, q3816, gtm, h3823, q3818, gcu, q3820, gdr, h3824, h3825, h3826, h3827, h3828, hC1, hC2, h3829, h3835, (h3830).1, (h3834).1, hE, hZ, (by omega), (by assumption), (by omega), (by first | assumption | exact SG_0), q3832, gce8, h3821, h3833, a3800, gm⟩, by omega, by omega⟩ (by omega) (by omega))
      · refine wl_of hX hb cL_956 (rw_iconst (pc' := 957) rfl ?_)
        exfalso
        omega
    · show WL _ _ _ _ 952 [(4, vI i), (3, .ref o), (2, .ref m), (1, .ref x), (0, .ref 0)] [vL z3794, vL z3768] _ H3788
      refine wl_of hX hb cL_952 (rw_lcmp (pc' := 953) rfl ⟨b3769.1, b3769.2⟩ ⟨b3795.1, b3795.2⟩ ?_)
      have b3836 := wq_cmp_b z3768 z3794
      refine wl_of hX hb cL_953 (rw_if_eq (p1 := 1654) (p2 := 956) (by decide) rfl ⟨by omega, by omega⟩ (fun c3837 => ?_) (fun c3837 => ?_))
      · have k3838 : H3788 x 9 = H3762 x 9 := (f3793 x 9 _ gx rfl)
        have k3839 : H3788 m 6 = H3762 m 6 := (f3793 m 6 _ gm rfl)
        have k3840 : H3788 x 11 = H3762 x 11 := (f3793 x 11 _ gx rfl)
        have k3841 : H3788 m 13 = H3762 m 13 := (f3793 m 13 _ gm rfl)
        have k3842 : H3788 x 8 = H3762 x 8 := (f3793 x 8 _ gx rfl)
        have k3843 : H3788 m 3 = H3762 m 3 := (f3793 m 3 _ gm rfl)
        have k3844 : H3788 x 0 = H x 0 := ((f3793 x 0 _ gx rfl).trans (f3767 x 0 _ gx rfl))
        have q3845 : H3788 x 0 = (tc : Int) := k3844.trans e0
        have k3846 : H3788 m 5 = H m 5 := ((f3793 m 5 _ gm rfl).trans (f3767 m 5 _ gm rfl))
        have q3847 : H3788 m 5 = (tm : Int) := k3846.trans em
        have k3848 : H3788 x 6 = H x 6 := ((f3793 x 6 _ gx rfl).trans (f3767 x 6 _ gx rfl))
        have q3849 : H3788 x 6 = (cu : Int) := k3848.trans ecu
        have k3850 : H3788 x 7 = H x 7 := ((f3793 x 7 _ gx rfl).trans (f3767 x 7 _ gx rfl))
        have q3851 : H3788 x 7 = (dr : Int) := k3850.trans edr
        have h3852 : CEN T H3788 ce8 e8 d8 := (CEN_fr w3766 gce8 f3793 rfl a3773)
        have h3853 : TP T H3788 tc B := (TP_fr w3766 gtc f3793 rfl (TP_fr hW gtc f3767 rfl htc))
        have h3854 : TM T H3788 tm B := (TM_fr w3766 gtm f3793 rfl (TM_fr hW gtm f3767 rfl htm))
        have h3855 : DD T H3788 cu  := (DD_fr w3766 gcu f3793 rfl (DD_fr hW gcu f3767 rfl hcu))
        have h3856 : DD T H3788 dr  := (DD_fr w3766 gdr f3793 rfl (DD_fr hW gdr f3767 rfl hdr))
        have h3857 : DE T H3788 cu  := (DE_fr w3766 gcu f3793 rfl (DE_fr hW gcu f3767 rfl hdec))
        have h3858 : DE T H3788 dr  := (DE_fr w3766 gdr f3793 rfl (DE_fr hW gdr f3767 rfl hded))
        have h3859 : SP T H3788 x C8 := (SP_fr w3766 gx f3793 rfl (SP_fr hW gx f3767 rfl hsp))
        have h3860 : CU T H3788 cu e8 d8 n8 := (CU_fr w3766 gcu f3793 rfl (CU_fr hW gcu f3767 rfl hcu8))
        have h3861 : CY T H3788 cu (d8 0 3) g8 (H cu 17) := (CY_fr w3766 gcu f3793 rfl (CY_fr hW gcu f3767 rfl h3755))
        have k3862 : H3788 x 3 = H x 3 := ((f3793 x 3 _ gx rfl).trans (f3767 x 3 _ gx rfl))
        have q3863 : H3788 x 3 = (ce8 : Int) := k3862.trans ece8
        have h3864 : HDR T H3788 ce8  := (HDR_fr w3766 gce8 f3793 rfl (HDR_fr hW gce8 f3767 rfl hhdr8))
        have h3865 : RY T H3788 m (d8 0 3) g8 (H m 32) := (RY_fr w3766 gm f3793 rfl (RY_fr hW gm f3767 rfl h3756))
        have h3866 : RB T H3788 m e8 d8 := (RB_fr w3766 gm f3793 rfl h3784)
        exact WL.loc hX (by simp) (next T H3788 ⟨⟨w3792, g0, gx, gm, go, by omega, by omega⟩, ⟨_, tc, tm, cu, dr, _, _, _, _, _, ce8, q3845, gtc, h3853, q3847, gtm, h3854, q3849, gcu, q3851, gdr, h3855, h3856, h3857, h3858, h3859, hC1, hC2, h3860, h3866, (h3861).1, (h3865).1, hE, hZ, (by omega), (by assumption), (by omega), (by first | assumption | exact SG_0), q3863, gce8, h3852, h3864, a3804, gm⟩, by omega, by omega⟩ (by omega) (by omega))
      · refine wl_of hX hb cL_956 (rw_iconst (pc' := 957) rfl ?_)
        exfalso
        omega
  · show WL _ _ _ _ 948 [(4, vI i), (3, .ref o), (2, .ref m), (1, .ref x), (0, .ref 0)] [vL z3768] _ H3762
    refine wl_of hX hb cL_948 (rw_aload_n (pc' := 949) (v := .ref m) rfl rfl rfl ?_)
    have k3867 : wKI H3762 m = wKI H m := (wKI_fr hW gm f3767 rfl)
    have k3868 : H3762 x 9 = H x 9 := (f3767 x 9 _ gx rfl)
    have k3869 : H3762 m 6 = H m 6 := (f3767 m 6 _ gm rfl)
    have k3870 : H3762 x 11 = H x 11 := (f3767 x 11 _ gx rfl)
    have k3871 : H3762 m 13 = H m 13 := (f3767 m 13 _ gm rfl)
    have k3872 : H3762 x 8 = H x 8 := (f3767 x 8 _ gx rfl)
    have k3873 : H3762 m 3 = H m 3 := (f3767 m 3 _ gm rfl)
    have h3874 : RB T H3762 m e8 d8 := (RB_fr hW gm f3767 rfl hrb8)
    have h3875 : KNN T H3762 m e8 d8 := (KNN_fr hW gm f3767 rfl hknn8)
    refine wl_of hX hb cL_949 (xc_V (pc' := 952) (r := m) (as := []) (st := [vL z3768]) (lm_11_125) rfl rfl (Nat.le_of_ble_eq_true rfl) w3766 gm sh_42 (by decide) rfl (by decide) (u_258 (e := e8) (d := d8) w3766 gm (by omega) (by assumption) (by assumption) (by assumption) (by assumption) h3874 h3875) (fun R3876 T3877 H3878 p3879 => ?_))
    obtain ⟨e3880, w3882, f3883, z3884, e3881, b3885, p3886⟩ := p3879
    subst e3880
    subst e3881
    rcases p3886 with ⟨a3887, a3888, a3889, a3890⟩ | ⟨a3891, a3892, a3893, a3894⟩
    · show WL _ _ _ _ 952 [(4, vI i), (3, .ref o), (2, .ref m), (1, .ref x), (0, .ref 0)] [vL z3884, vL z3768] _ H3878
      refine wl_of hX hb cL_952 (rw_lcmp (pc' := 953) rfl ⟨b3769.1, b3769.2⟩ ⟨b3885.1, b3885.2⟩ ?_)
      have b3895 := wq_cmp_b z3768 z3884
      refine wl_of hX hb cL_953 (rw_if_eq (p1 := 1654) (p2 := 956) (by decide) rfl ⟨by omega, by omega⟩ (fun c3896 => ?_) (fun c3896 => ?_))
      · have k3897 : H3878 x 9 = H3762 x 9 := (f3883 x 9 _ gx rfl)
        have k3898 : H3878 m 6 = H3762 m 6 := (f3883 m 6 _ gm rfl)
        have k3899 : H3878 x 11 = H3762 x 11 := (f3883 x 11 _ gx rfl)
        have k3900 : H3878 m 13 = H3762 m 13 := (f3883 m 13 _ gm rfl)
        have k3901 : H3878 x 8 = H3762 x 8 := (f3883 x 8 _ gx rfl)
        have k3902 : H3878 m 3 = H3762 m 3 := (f3883 m 3 _ gm rfl)
        have k3903 : H3878 x 0 = H x 0 := ((f3883 x 0 _ gx rfl).trans (f3767 x 0 _ gx rfl))
        have q3904 : H3878 x 0 = (tc : Int) := k3903.trans e0
        have k3905 : H3878 m 5 = H m 5 := ((f3883 m 5 _ gm rfl).trans (f3767 m 5 _ gm rfl))
        have q3906 : H3878 m 5 = (tm : Int) := k3905.trans em
        have k3907 : H3878 x 6 = H x 6 := ((f3883 x 6 _ gx rfl).trans (f3767 x 6 _ gx rfl))
        have q3908 : H3878 x 6 = (cu : Int) := k3907.trans ecu
        have k3909 : H3878 x 7 = H x 7 := ((f3883 x 7 _ gx rfl).trans (f3767 x 7 _ gx rfl))
        have q3910 : H3878 x 7 = (dr : Int) := k3909.trans edr
        have h3911 : CEN T H3878 ce8 e8 d8 := (CEN_fr w3766 gce8 f3883 rfl a3776)
        have h3912 : TP T H3878 tc B := (TP_fr w3766 gtc f3883 rfl (TP_fr hW gtc f3767 rfl htc))
        have h3913 : TM T H3878 tm B := (TM_fr w3766 gtm f3883 rfl (TM_fr hW gtm f3767 rfl htm))
        have h3914 : DD T H3878 cu  := (DD_fr w3766 gcu f3883 rfl (DD_fr hW gcu f3767 rfl hcu))
        have h3915 : DD T H3878 dr  := (DD_fr w3766 gdr f3883 rfl (DD_fr hW gdr f3767 rfl hdr))
        have h3916 : DE T H3878 cu  := (DE_fr w3766 gcu f3883 rfl (DE_fr hW gcu f3767 rfl hdec))
        have h3917 : DE T H3878 dr  := (DE_fr w3766 gdr f3883 rfl (DE_fr hW gdr f3767 rfl hded))
        have h3918 : SP T H3878 x C8 := (SP_fr w3766 gx f3883 rfl (SP_fr hW gx f3767 rfl hsp))
        have h3919 : CU T H3878 cu e8 d8 n8 := (CU_fr w3766 gcu f3883 rfl (CU_fr hW gcu f3767 rfl hcu8))
        have h3920 : CY T H3878 cu (d8 0 3) g8 (H cu 17) := (CY_fr w3766 gcu f3883 rfl (CY_fr hW gcu f3767 rfl h3755))
        have k3921 : H3878 x 3 = H x 3 := ((f3883 x 3 _ gx rfl).trans (f3767 x 3 _ gx rfl))
        have q3922 : H3878 x 3 = (ce8 : Int) := k3921.trans ece8
        have h3923 : HDR T H3878 ce8  := (HDR_fr w3766 gce8 f3883 rfl (HDR_fr hW gce8 f3767 rfl hhdr8))
        have h3924 : RY T H3878 m (d8 0 3) g8 (H m 32) := (RY_fr w3766 gm f3883 rfl (RY_fr hW gm f3767 rfl h3756))
        have h3925 : RB T H3878 m e8 d8 := (RB_fr w3766 gm f3883 rfl h3874)
        exact WL.loc hX (by simp) (next T H3878 ⟨⟨w3882, g0, gx, gm, go, by omega, by omega⟩, ⟨_, tc, tm, cu, dr, _, _, _, _, _, ce8, q3904, gtc, h3912, q3906, gtm, h3913, q3908, gcu, q3910, gdr, h3914, h3915, h3916, h3917, h3918, hC1, hC2, h3919, h3925, (h3920).1, (h3924).1, hE, hZ, (by omega), (by assumption), (by omega), (by first | assumption | exact SG_0), q3922, gce8, h3911, h3923, a3890, gm⟩, by omega, by omega⟩ (by omega) (by omega))
      · refine wl_of hX hb cL_956 (rw_iconst (pc' := 957) rfl ?_)
        exfalso
        omega
    · show WL _ _ _ _ 952 [(4, vI i), (3, .ref o), (2, .ref m), (1, .ref x), (0, .ref 0)] [vL z3884, vL z3768] _ H3878
      refine wl_of hX hb cL_952 (rw_lcmp (pc' := 953) rfl ⟨b3769.1, b3769.2⟩ ⟨b3885.1, b3885.2⟩ ?_)
      have b3926 := wq_cmp_b z3768 z3884
      refine wl_of hX hb cL_953 (rw_if_eq (p1 := 1654) (p2 := 956) (by decide) rfl ⟨by omega, by omega⟩ (fun c3927 => ?_) (fun c3927 => ?_))
      · have k3928 : H3878 x 9 = H3762 x 9 := (f3883 x 9 _ gx rfl)
        have k3929 : H3878 m 6 = H3762 m 6 := (f3883 m 6 _ gm rfl)
        have k3930 : H3878 x 11 = H3762 x 11 := (f3883 x 11 _ gx rfl)
        have k3931 : H3878 m 13 = H3762 m 13 := (f3883 m 13 _ gm rfl)
        have k3932 : H3878 x 8 = H3762 x 8 := (f3883 x 8 _ gx rfl)
        have k3933 : H3878 m 3 = H3762 m 3 := (f3883 m 3 _ gm rfl)
        have k3934 : H3878 x 0 = H x 0 := ((f3883 x 0 _ gx rfl).trans (f3767 x 0 _ gx rfl))
        have q3935 : H3878 x 0 = (tc : Int) := k3934.trans e0
        have k3936 : H3878 m 5 = H m 5 := ((f3883 m 5 _ gm rfl).trans (f3767 m 5 _ gm rfl))
        have q3937 : H3878 m 5 = (tm : Int) := k3936.trans em
        have k3938 : H3878 x 6 = H x 6 := ((f3883 x 6 _ gx rfl).trans (f3767 x 6 _ gx rfl))
        have q3939 : H3878 x 6 = (cu : Int) := k3938.trans ecu
        have k3940 : H3878 x 7 = H x 7 := ((f3883 x 7 _ gx rfl).trans (f3767 x 7 _ gx rfl))
        have q3941 : H3878 x 7 = (dr : Int) := k3940.trans edr
        have h3942 : CEN T H3878 ce8 e8 d8 := (CEN_fr w3766 gce8 f3883 rfl a3776)
        have h3943 : TP T H3878 tc B := (TP_fr w3766 gtc f3883 rfl (TP_fr hW gtc f3767 rfl htc))
        have h3944 : TM T H3878 tm B := (TM_fr w3766 gtm f3883 rfl (TM_fr hW gtm f3767 rfl htm))
        have h3945 : DD T H3878 cu  := (DD_fr w3766 gcu f3883 rfl (DD_fr hW gcu f3767 rfl hcu))
        have h3946 : DD T H3878 dr  := (DD_fr w3766 gdr f3883 rfl (DD_fr hW gdr f3767 rfl hdr))
        have h3947 : DE T H3878 cu  := (DE_fr w3766 gcu f3883 rfl (DE_fr hW gcu f3767 rfl hdec))
        have h3948 : DE T H3878 dr  := (DE_fr w3766 gdr f3883 rfl (DE_fr hW gdr f3767 rfl hded))
        have h3949 : SP T H3878 x C8 := (SP_fr w3766 gx f3883 rfl (SP_fr hW gx f3767 rfl hsp))
        have h3950 : CU T H3878 cu e8 d8 n8 := (CU_fr w3766 gcu f3883 rfl (CU_fr hW gcu f3767 rfl hcu8))
        have h3951 : CY T H3878 cu (d8 0 3) g8 (H cu 17) := (CY_fr w3766 gcu f3883 rfl (CY_fr hW gcu f3767 rfl h3755))
        have k3952 : H3878 x 3 = H x 3 := ((f3883 x 3 _ gx rfl).trans (f3767 x 3 _ gx rfl))
        have q3953 : H3878 x 3 = (ce8 : Int) := k3952.trans ece8
        have h3954 : HDR T H3878 ce8  := (HDR_fr w3766 gce8 f3883 rfl (HDR_fr hW gce8 f3767 rfl hhdr8))
        have h3955 : RY T H3878 m (d8 0 3) g8 (H m 32) := (RY_fr w3766 gm f3883 rfl (RY_fr hW gm f3767 rfl h3756))
        have h3956 : RB T H3878 m e8 d8 := (RB_fr w3766 gm f3883 rfl h3874)
        exact WL.loc hX (by simp) (next T H3878 ⟨⟨w3882, g0, gx, gm, go, by omega, by omega⟩, ⟨_, tc, tm, cu, dr, _, _, _, _, _, ce8, q3935, gtc, h3943, q3937, gtm, h3944, q3939, gcu, q3941, gdr, h3945, h3946, h3947, h3948, h3949, hC1, hC2, h3950, h3956, (h3951).1, (h3955).1, hE, hZ, (by omega), (by assumption), (by omega), (by first | assumption | exact SG_0), q3953, gce8, h3942, h3954, a3894, gm⟩, by omega, by omega⟩ (by omega) (by omega))
      · refine wl_of hX hb cL_956 (rw_iconst (pc' := 957) rfl ?_)
        exfalso
        omega
set_option maxHeartbeats 4000000 in
theorem wl_c25 {kt : Nat → Option mc_E} {CB SB : Nat} {X : mc_S → Prop} {T : wq_T} {H : wq_H} {Len x m o : Nat} {i : Int} (hX : wlX kt CB SB X) (hb : T.2.1 ≤ CB ∧ T.2.2.1 ≤ SB) (hI : wlJ Len x m o T H) (hL : Len ≤ 3072) (hi : 0 ≤ i ∧ i + 6 ≤ Len) (hb2 : T.2.1 + 20 ≤ CB ∧ T.2.2.1 + 500 ≤ SB)  (next : ∀ T' H', wlJ Len x m o T' H' → T'.2.1 ≤ T.2.1 + 20 → T'.2.2.1 ≤ T.2.2.1 + 500 → WL kt CB SB X 1654 (wlL i x m o) [] T' H') : WL kt CB SB X 958 (wlL i x m o) [] T H := by
  obtain ⟨⟨hW, g0, gx, gm, go, hK, hr⟩, hXI, hY1, hY2⟩ := hI
  refine wl_of hX hb cL_958 (rw_aload_n (pc' := 959) (v := .ref x) rfl rfl rfl ?_)
  refine wl_of hX hb cL_959 (rw_aload_n (pc' := 960) (v := .ref 0) rfl rfl rfl ?_)
  refine wl_of hX hb cL_960 (rw_iload (pc' := 962) (z := i) rfl rfl ?_)
  refine wl_of hX hb cL_962 (rw_iconst (pc' := 963) rfl ?_)
  refine wl_of hX hb cL_963 (rw_iadd (pc' := 964) rfl ?_)
  refine wl_of hX hb cL_964 (xa_I (so := 0) (pc' := 965) (a := 0) hW g0 (wsh_s _) (by omega) (wty_s _ _) (by omega) (by omega) rfl (fun b3957 b3958 => ?_))
  refine wl_of hX hb cL_965 (rw_aload_n (pc' := 966) (v := .ref 0) rfl rfl rfl ?_)
  refine wl_of hX hb cL_966 (rw_iload (pc' := 968) (z := i) rfl rfl ?_)
  refine wl_of hX hb cL_968 (rw_iconst (pc' := 969) rfl ?_)
  refine wl_of hX hb cL_969 (rw_iadd (pc' := 970) rfl ?_)
  refine wl_of hX hb cL_970 (xa_I (so := 0) (pc' := 971) (a := 0) hW g0 (wsh_s _) (by omega) (wty_s _ _) (by omega) (by omega) rfl (fun b3959 b3960 => ?_))
  obtain ⟨B, tc, tm, cu, dr, C8, e8, d8, n8, g8, ce8, e0, gtc, htc, em, gtm, htm, ecu, gcu, edr, gdr, hcu, hdr, hdec, hded, hsp, hC1, hC2, hcu8, hrb8, hcg8, hmn8, hE, hZ, hn8, hXA, hV8, hSG, ece8, gce8, hcen8, hhdr8, hknn8, -⟩ := hXI
  have hN3 := RB_n3 hrb8
  have hE13 : ∀ h : Nat, h < 24 → 0 ≤ e8 13 h ∧ e8 13 h ≤ 100 := fun k hk => by
    obtain ⟨s, h1, h2, h3⟩ := hcu8.1.2.2.1
    exact ⟨(h3 k hk).1, (h3 k hk).2.1⟩
  have hXW := hXA.1
  have hXN := hXA.2
  have hE0 : e8 0 3 = d8 0 3 ∧ e8 0 0 = d8 0 0 := by
    have h := hE 0 (by decide)
    exact ⟨congrFun h 3, congrFun h 0⟩
  have u3961 := CU_k hcu8
  have h3962 : CY T H cu (d8 0 3) g8 (H cu 17) := ⟨hcg8, rfl⟩
  have h3963 : RY T H m (d8 0 3) g8 (H m 32) := ⟨hmn8, rfl⟩
  obtain ⟨t9, ht9⟩ : ∃ t : Int, t = H x 9 := ⟨_, rfl⟩
  obtain ⟨y9, hy9⟩ : ∃ y : Int, y = H 0 ((i + 2).toNat) := ⟨_, rfl⟩
  obtain ⟨r3964, q3965, g3966⟩ := hW.ref gx (t' := 6) (n := 13) (j := 2) (p := 0) (q := 0) rfl (by decide) rfl
  refine wl_of hX hb cL_971 (xc_V (pc' := 974) (r := x) (as := [vI (H 0 ((i + 1).toNat)), vI (H 0 ((i + 2).toNat))]) (st := []) (lm_11_126) rfl rfl (Nat.le_of_ble_eq_true rfl) hW gx sh_1 (by decide) rfl (by decide) (u_109 (e := e8) (d := d8) (n := n8) hW gx ⟨by omega, by omega⟩ ⟨by omega, by omega⟩ ecu gcu q3965 g3966 ece8 gce8 (by assumption) (by assumption) (by omega) (by omega) (by omega) (by omega) hcu8 hcen8 hhdr8) (fun R3967 T3968 H3969 p3970 => ?_))
  obtain ⟨e3971, w3973, f3974, z3975, e3972, b3976, p3977⟩ := p3970
  subst e3971
  subst e3972
  show WL _ _ _ _ 974 [(4, vI i), (3, .ref o), (2, .ref m), (1, .ref x), (0, .ref 0)] [vI z3975] _ H3969
  refine wl_of hX hb cL_974 (rw_pop (pc' := 975) rfl rfl ?_)
  refine wl_of hX hb cL_975 (rw_aload_n (pc' := 976) (v := .ref m) rfl rfl rfl ?_)
  refine wl_of hX hb cL_976 (rw_aload_n (pc' := 977) (v := .ref 0) rfl rfl rfl ?_)
  refine wl_of hX hb cL_977 (rw_iload (pc' := 979) (z := i) rfl rfl ?_)
  refine wl_of hX hb cL_979 (rw_iconst (pc' := 980) rfl ?_)
  refine wl_of hX hb cL_980 (rw_iadd (pc' := 981) rfl ?_)
  have k3981 : H3969 0 ((i + 1).toNat) = H 0 ((i + 1).toNat) := (f3974 0 ((i + 1).toNat) _ g0 (wmem_s rfl))
  refine wl_of hX hb cL_981 (xa_I (so := 0) (pc' := 982) (a := 0) w3973 g0 (wsh_s _) (by omega) (wty_s _ _) (by omega) (by omega) rfl (fun b3979 b3980 => ?_))
  refine wl_of hX hb cL_982 (rw_aload_n (pc' := 983) (v := .ref 0) rfl rfl rfl ?_)
  refine wl_of hX hb cL_983 (rw_iload (pc' := 985) (z := i) rfl rfl ?_)
  refine wl_of hX hb cL_985 (rw_iconst (pc' := 986) rfl ?_)
  refine wl_of hX hb cL_986 (rw_iadd (pc' := 987) rfl ?_)
  have k3984 : H3969 0 ((i + 2).toNat) = H 0 ((i + 2).toNat) := (f3974 0 ((i + 2).toNat) _ g0 (wmem_s rfl))
  refine wl_of hX hb cL_987 (xa_I (so := 0) (pc' := 988) (a := 0) w3973 g0 (wsh_s _) (by omega) (wty_s _ _) (by omega) (by omega) rfl (fun b3982 b3983 => ?_))
  have k3985 : wKI H3969 m = wKI H m := (wKI_fr hW gm f3974 rfl)
  have k3986 : H3969 x 9 = H x 9 := (f3974 x 9 _ gx rfl)
  have k3987 : H3969 m 6 = H m 6 := (f3974 m 6 _ gm rfl)
  have k3988 : H3969 x 11 = H x 11 := (f3974 x 11 _ gx rfl)
  have k3989 : H3969 m 13 = H m 13 := (f3974 m 13 _ gm rfl)
  have k3990 : H3969 x 8 = H x 8 := (f3974 x 8 _ gx rfl)
  have k3991 : H3969 m 3 = H m 3 := (f3974 m 3 _ gm rfl)
  rw [show H3969 0 ((i + 2).toNat) = H 0 ((i + 2).toNat) by omega]
  rw [show H3969 0 ((i + 1).toNat) = H 0 ((i + 1).toNat) by omega]
  have h3992 : RB T H3969 m e8 d8 := (RB_fr hW gm f3974 rfl hrb8)
  have h3993 : KNN T H3969 m e8 d8 := (KNN_fr hW gm f3974 rfl hknn8)
  refine wl_of hX hb cL_988 (xc_V (pc' := 991) (r := m) (as := [vI (H 0 ((i + 1).toNat)), vI (H 0 ((i + 2).toNat))]) (st := []) (lm_11_129) rfl rfl (Nat.le_of_ble_eq_true rfl) w3973 gm sh_42 (by decide) rfl (by decide) (u_259 (e := e8) (d := d8) w3973 gm ⟨by omega, by omega⟩ ⟨by omega, by omega⟩ (by omega) (by assumption) (by assumption) (by assumption) (by assumption) h3992 h3993) (fun R3994 T3995 H3996 p3997 => ?_))
  obtain ⟨e3998, w4000, f4001, z4002, e3999, b4003, p4004⟩ := p3997
  subst e3998
  subst e3999
  obtain ⟨a4005, a4006⟩ := p4004
  show WL _ _ _ _ 991 [(4, vI i), (3, .ref o), (2, .ref m), (1, .ref x), (0, .ref 0)] [vI z4002] _ H3996
  refine wl_of hX hb cL_991 (rw_pop (pc' := 992) rfl rfl ?_)
  refine wl_of hX hb cL_992 (rw_goto (p1 := 1654) (by decide) ?_)
  have k4007 : H3996 x 9 = H3969 x 9 := (f4001 x 9 _ gx rfl)
  have k4008 : H3996 m 6 = H3969 m 6 := (f4001 m 6 _ gm rfl)
  have k4009 : H3996 x 11 = H3969 x 11 := (f4001 x 11 _ gx rfl)
  have k4010 : H3996 m 13 = H3969 m 13 := (f4001 m 13 _ gm rfl)
  have k4011 : H3996 x 8 = H3969 x 8 := (f4001 x 8 _ gx rfl)
  have k4012 : H3996 m 3 = H3969 m 3 := (f4001 m 3 _ gm rfl)
  have k4013 : H3996 x 0 = H x 0 := ((f4001 x 0 _ gx rfl).trans (f3974 x 0 _ gx rfl))
  have q4014 : H3996 x 0 = (tc : Int) := k4013.trans e0
  have k4015 : H3996 m 5 = H m 5 := ((f4001 m 5 _ gm rfl).trans (f3974 m 5 _ gm rfl))
  have q4016 : H3996 m 5 = (tm : Int) := k4015.trans em
  have k4017 : H3996 x 6 = H x 6 := ((f4001 x 6 _ gx rfl).trans (f3974 x 6 _ gx rfl))
  have q4018 : H3996 x 6 = (cu : Int) := k4017.trans ecu
  have k4019 : H3996 x 7 = H x 7 := ((f4001 x 7 _ gx rfl).trans (f3974 x 7 _ gx rfl))
  have q4020 : H3996 x 7 = (dr : Int) := k4019.trans edr
  have h4021 : CEN T H3996 ce8 e8 d8 := (CEN_fr w3973 gce8 f4001 rfl p3977)
  have h4022 : TP T H3996 tc B := (TP_fr w3973 gtc f4001 rfl (TP_fr hW gtc f3974 rfl htc))
  have h4023 : TM T H3996 tm B := (TM_fr w3973 gtm f4001 rfl (TM_fr hW gtm f3974 rfl htm))
  have h4024 : DD T H3996 cu  := (DD_fr w3973 gcu f4001 rfl (DD_fr hW gcu f3974 rfl hcu))
  have h4025 : DD T H3996 dr  := (DD_fr w3973 gdr f4001 rfl (DD_fr hW gdr f3974 rfl hdr))
  have h4026 : DE T H3996 cu  := (DE_fr w3973 gcu f4001 rfl (DE_fr hW gcu f3974 rfl hdec))
  have h4027 : DE T H3996 dr  := (DE_fr w3973 gdr f4001 rfl (DE_fr hW gdr f3974 rfl hded))
  have h4028 : SP T H3996 x C8 := (SP_fr w3973 gx f4001 rfl (SP_fr hW gx f3974 rfl hsp))
  have h4029 : CU T H3996 cu e8 d8 n8 := (CU_fr w3973 gcu f4001 rfl (CU_fr hW gcu f3974 rfl hcu8))
  have h4030 : CY T H3996 cu (d8 0 3) g8 (H cu 17) := (CY_fr w3973 gcu f4001 rfl (CY_fr hW gcu f3974 rfl h3962))
  have k4031 : H3996 x 3 = H x 3 := ((f4001 x 3 _ gx rfl).trans (f3974 x 3 _ gx rfl))
  have q4032 : H3996 x 3 = (ce8 : Int) := k4031.trans ece8
  have h4033 : HDR T H3996 ce8  := (HDR_fr w3973 gce8 f4001 rfl (HDR_fr hW gce8 f3974 rfl hhdr8))
  have h4034 : RY T H3996 m (d8 0 3) g8 (H m 32) := (RY_fr w3973 gm f4001 rfl (RY_fr hW gm f3974 rfl h3963))
  have h4035 : RB T H3996 m e8 d8 := (RB_fr w3973 gm f4001 rfl h3992)
  exact WL.loc hX (by simp) (next T H3996 ⟨⟨w4000, g0, gx, gm, go, by omega, by omega⟩, ⟨_, tc, tm, cu, dr, _, _, _, _, _, ce8, q4014, gtc, h4022, q4016, gtm, h4023, q4018, gcu, q4020, gdr, h4024, h4025, h4026, h4027, h4028, hC1, hC2, h4029, h4035, (h4030).1, (h4034).1, hE, hZ, (by omega), (by assumption), (by omega), (by first | assumption | exact SG_0), q4032, gce8, h4021, h4033, a4006, gm⟩, by omega, by omega⟩ (by omega) (by omega))
set_option maxHeartbeats 4000000 in
theorem wl_c26 {kt : Nat → Option mc_E} {CB SB : Nat} {X : mc_S → Prop} {T : wq_T} {H : wq_H} {Len x m o : Nat} {i : Int} (hX : wlX kt CB SB X) (hb : T.2.1 ≤ CB ∧ T.2.2.1 ≤ SB) (hI : wlJ Len x m o T H) (hL : Len ≤ 3072) (hi : 0 ≤ i ∧ i + 6 ≤ Len) (hb2 : T.2.1 + 20 ≤ CB ∧ T.2.2.1 + 500 ≤ SB)  (next : ∀ T' H', wlJ Len x m o T' H' → T'.2.1 ≤ T.2.1 + 20 → T'.2.2.1 ≤ T.2.2.1 + 500 → WL kt CB SB X 1654 (wlL i x m o) [] T' H') : WL kt CB SB X 995 (wlL i x m o) [] T H := by
  obtain ⟨⟨hW, g0, gx, gm, go, hK, hr⟩, hXI, hY1, hY2⟩ := hI
  refine wl_of hX hb cL_995 (rw_aload_n (pc' := 996) (v := .ref x) rfl rfl rfl ?_)
  refine wl_of hX hb cL_996 (rw_aload_n (pc' := 997) (v := .ref 0) rfl rfl rfl ?_)
  refine wl_of hX hb cL_997 (rw_iload (pc' := 999) (z := i) rfl rfl ?_)
  refine wl_of hX hb cL_999 (rw_iconst (pc' := 1000) rfl ?_)
  refine wl_of hX hb cL_1000 (rw_iadd (pc' := 1001) rfl ?_)
  refine wl_of hX hb cL_1001 (xa_I (so := 0) (pc' := 1002) (a := 0) hW g0 (wsh_s _) (by omega) (wty_s _ _) (by omega) (by omega) rfl (fun b4036 b4037 => ?_))
  obtain ⟨B, tc, tm, cu, dr, C8, e8, d8, n8, g8, ce8, e0, gtc, htc, em, gtm, htm, ecu, gcu, edr, gdr, hcu, hdr, hdec, hded, hsp, hC1, hC2, hcu8, hrb8, hcg8, hmn8, hE, hZ, hn8, hXA, hV8, hSG, ece8, gce8, hcen8, hhdr8, hknn8, -⟩ := hXI
  have hN3 := RB_n3 hrb8
  have hE13 : ∀ h : Nat, h < 24 → 0 ≤ e8 13 h ∧ e8 13 h ≤ 100 := fun k hk => by
    obtain ⟨s, h1, h2, h3⟩ := hcu8.1.2.2.1
    exact ⟨(h3 k hk).1, (h3 k hk).2.1⟩
  have hXW := hXA.1
  have hXN := hXA.2
  have hE0 : e8 0 3 = d8 0 3 ∧ e8 0 0 = d8 0 0 := by
    have h := hE 0 (by decide)
    exact ⟨congrFun h 3, congrFun h 0⟩
  have u4038 := CU_k hcu8
  have h4039 : CY T H cu (d8 0 3) g8 (H cu 17) := ⟨hcg8, rfl⟩
  have h4040 : RY T H m (d8 0 3) g8 (H m 32) := ⟨hmn8, rfl⟩
  obtain ⟨t9, ht9⟩ : ∃ t : Int, t = H x 9 := ⟨_, rfl⟩
  obtain ⟨y9, hy9⟩ : ∃ y : Int, y = H 0 ((i + 1).toNat) := ⟨_, rfl⟩
  obtain ⟨r4041, q4042, g4043⟩ := hW.ref gx (t' := 6) (n := 13) (j := 2) (p := 0) (q := 0) rfl (by decide) rfl
  refine wl_of hX hb cL_1002 (xc_V (pc' := 1005) (r := x) (as := [vI (H 0 ((i + 1).toNat))]) (st := []) (lm_11_130) rfl rfl (Nat.le_of_ble_eq_true rfl) hW gx sh_1 (by decide) rfl (by decide) (u_112 (e := e8) (d := d8) (n := n8) hW gx ⟨by omega, by omega⟩ ecu gcu q4042 g4043 ece8 gce8 (by assumption) (by assumption) (by omega) (by omega) (by omega) (by omega) hcu8 hcen8 hhdr8) (fun R4044 T4045 H4046 p4047 => ?_))
  obtain ⟨e4048, w4050, f4051, z4052, e4049, b4053, p4054⟩ := p4047
  subst e4048
  subst e4049
  show WL _ _ _ _ 1005 [(4, vI i), (3, .ref o), (2, .ref m), (1, .ref x), (0, .ref 0)] [vL z4052] _ H4046
  refine wl_of hX hb cL_1005 (rw_pop2 (pc' := 1006) rfl rfl ?_)
  refine wl_of hX hb cL_1006 (rw_aload_n (pc' := 1007) (v := .ref m) rfl rfl rfl ?_)
  refine wl_of hX hb cL_1007 (rw_aload_n (pc' := 1008) (v := .ref 0) rfl rfl rfl ?_)
  refine wl_of hX hb cL_1008 (rw_iload (pc' := 1010) (z := i) rfl rfl ?_)
  refine wl_of hX hb cL_1010 (rw_iconst (pc' := 1011) rfl ?_)
  refine wl_of hX hb cL_1011 (rw_iadd (pc' := 1012) rfl ?_)
  have k4058 : H4046 0 ((i + 1).toNat) = H 0 ((i + 1).toNat) := (f4051 0 ((i + 1).toNat) _ g0 (wmem_s rfl))
  refine wl_of hX hb cL_1012 (xa_I (so := 0) (pc' := 1013) (a := 0) w4050 g0 (wsh_s _) (by omega) (wty_s _ _) (by omega) (by omega) rfl (fun b4056 b4057 => ?_))
  have k4059 : wKI H4046 m = wKI H m := (wKI_fr hW gm f4051 rfl)
  have k4060 : H4046 x 9 = H x 9 := (f4051 x 9 _ gx rfl)
  have k4061 : H4046 m 6 = H m 6 := (f4051 m 6 _ gm rfl)
  have k4062 : H4046 x 11 = H x 11 := (f4051 x 11 _ gx rfl)
  have k4063 : H4046 m 13 = H m 13 := (f4051 m 13 _ gm rfl)
  have k4064 : H4046 x 8 = H x 8 := (f4051 x 8 _ gx rfl)
  have k4065 : H4046 m 3 = H m 3 := (f4051 m 3 _ gm rfl)
  rw [show H4046 0 ((i + 1).toNat) = H 0 ((i + 1).toNat) by omega]
  have h4066 : RB T H4046 m e8 d8 := (RB_fr hW gm f4051 rfl hrb8)
  have h4067 : KNN T H4046 m e8 d8 := (KNN_fr hW gm f4051 rfl hknn8)
  refine wl_of hX hb cL_1013 (xc_V (pc' := 1016) (r := m) (as := [vI (H 0 ((i + 1).toNat))]) (st := []) (lm_11_134) rfl rfl (Nat.le_of_ble_eq_true rfl) w4050 gm sh_42 (by decide) rfl (by decide) (u_260 (e := e8) (d := d8) w4050 gm ⟨by omega, by omega⟩ (by omega) (by assumption) (by assumption) (by assumption) (by assumption) h4066 h4067) (fun R4068 T4069 H4070 p4071 => ?_))
  obtain ⟨e4072, w4074, f4075, z4076, e4073, b4077, p4078⟩ := p4071
  subst e4072
  subst e4073
  obtain ⟨a4079, a4080⟩ := p4078
  show WL _ _ _ _ 1016 [(4, vI i), (3, .ref o), (2, .ref m), (1, .ref x), (0, .ref 0)] [vL z4076] _ H4070
  refine wl_of hX hb cL_1016 (rw_pop2 (pc' := 1017) rfl rfl ?_)
  refine wl_of hX hb cL_1017 (rw_goto (p1 := 1654) (by decide) ?_)
  have k4081 : H4070 x 9 = H4046 x 9 := (f4075 x 9 _ gx rfl)
  have k4082 : H4070 m 6 = H4046 m 6 := (f4075 m 6 _ gm rfl)
  have k4083 : H4070 x 11 = H4046 x 11 := (f4075 x 11 _ gx rfl)
  have k4084 : H4070 m 13 = H4046 m 13 := (f4075 m 13 _ gm rfl)
  have k4085 : H4070 x 8 = H4046 x 8 := (f4075 x 8 _ gx rfl)
  have k4086 : H4070 m 3 = H4046 m 3 := (f4075 m 3 _ gm rfl)
  have k4087 : H4070 x 0 = H x 0 := ((f4075 x 0 _ gx rfl).trans (f4051 x 0 _ gx rfl))
  have q4088 : H4070 x 0 = (tc : Int) := k4087.trans e0
  have k4089 : H4070 m 5 = H m 5 := ((f4075 m 5 _ gm rfl).trans (f4051 m 5 _ gm rfl))
  have q4090 : H4070 m 5 = (tm : Int) := k4089.trans em
  have k4091 : H4070 x 6 = H x 6 := ((f4075 x 6 _ gx rfl).trans (f4051 x 6 _ gx rfl))
  have q4092 : H4070 x 6 = (cu : Int) := k4091.trans ecu
  have k4093 : H4070 x 7 = H x 7 := ((f4075 x 7 _ gx rfl).trans (f4051 x 7 _ gx rfl))
  have q4094 : H4070 x 7 = (dr : Int) := k4093.trans edr
  have h4095 : CEN T H4070 ce8 e8 d8 := (CEN_fr w4050 gce8 f4075 rfl p4054)
  have h4096 : TP T H4070 tc B := (TP_fr w4050 gtc f4075 rfl (TP_fr hW gtc f4051 rfl htc))
  have h4097 : TM T H4070 tm B := (TM_fr w4050 gtm f4075 rfl (TM_fr hW gtm f4051 rfl htm))
  have h4098 : DD T H4070 cu  := (DD_fr w4050 gcu f4075 rfl (DD_fr hW gcu f4051 rfl hcu))
  have h4099 : DD T H4070 dr  := (DD_fr w4050 gdr f4075 rfl (DD_fr hW gdr f4051 rfl hdr))
  have h4100 : DE T H4070 cu  := (DE_fr w4050 gcu f4075 rfl (DE_fr hW gcu f4051 rfl hdec))
  have h4101 : DE T H4070 dr  := (DE_fr w4050 gdr f4075 rfl (DE_fr hW gdr f4051 rfl hded))
  have h4102 : SP T H4070 x C8 := (SP_fr w4050 gx f4075 rfl (SP_fr hW gx f4051 rfl hsp))
  have h4103 : CU T H4070 cu e8 d8 n8 := (CU_fr w4050 gcu f4075 rfl (CU_fr hW gcu f4051 rfl hcu8))
  have h4104 : CY T H4070 cu (d8 0 3) g8 (H cu 17) := (CY_fr w4050 gcu f4075 rfl (CY_fr hW gcu f4051 rfl h4039))
  have k4105 : H4070 x 3 = H x 3 := ((f4075 x 3 _ gx rfl).trans (f4051 x 3 _ gx rfl))
  have q4106 : H4070 x 3 = (ce8 : Int) := k4105.trans ece8
  have h4107 : HDR T H4070 ce8  := (HDR_fr w4050 gce8 f4075 rfl (HDR_fr hW gce8 f4051 rfl hhdr8))
  have h4108 : RY T H4070 m (d8 0 3) g8 (H m 32) := (RY_fr w4050 gm f4075 rfl (RY_fr hW gm f4051 rfl h4040))
  have h4109 : RB T H4070 m e8 d8 := (RB_fr w4050 gm f4075 rfl h4066)
  exact WL.loc hX (by simp) (next T H4070 ⟨⟨w4074, g0, gx, gm, go, by omega, by omega⟩, ⟨_, tc, tm, cu, dr, _, _, _, _, _, ce8, q4088, gtc, h4096, q4090, gtm, h4097, q4092, gcu, q4094, gdr, h4098, h4099, h4100, h4101, h4102, hC1, hC2, h4103, h4109, (h4104).1, (h4108).1, hE, hZ, (by omega), (by assumption), (by omega), (by first | assumption | exact SG_0), q4106, gce8, h4095, h4107, a4080, gm⟩, by omega, by omega⟩ (by omega) (by omega))
set_option maxHeartbeats 4000000 in
theorem wl_c27 {kt : Nat → Option mc_E} {CB SB : Nat} {X : mc_S → Prop} {T : wq_T} {H : wq_H} {Len x m o : Nat} {i : Int} (hX : wlX kt CB SB X) (hb : T.2.1 ≤ CB ∧ T.2.2.1 ≤ SB) (hI : wlJ Len x m o T H) (hL : Len ≤ 3072) (hi : 0 ≤ i ∧ i + 6 ≤ Len) (hb2 : T.2.1 + 20 ≤ CB ∧ T.2.2.1 + 500 ≤ SB)  (next : ∀ T' H', wlJ Len x m o T' H' → T'.2.1 ≤ T.2.1 + 20 → T'.2.2.1 ≤ T.2.2.1 + 500 → WL kt CB SB X 1654 (wlL i x m o) [] T' H') : WL kt CB SB X 1020 (wlL i x m o) [] T H := by
  obtain ⟨⟨hW, g0, gx, gm, go, hK, hr⟩, hXI, hY1, hY2⟩ := hI
  refine wl_of hX hb cL_1020 (rw_aload_n (pc' := 1021) (v := .ref x) rfl rfl rfl ?_)
  refine wl_of hX hb cL_1021 (rw_aload_n (pc' := 1022) (v := .ref 0) rfl rfl rfl ?_)
  refine wl_of hX hb cL_1022 (rw_iload (pc' := 1024) (z := i) rfl rfl ?_)
  refine wl_of hX hb cL_1024 (rw_iconst (pc' := 1025) rfl ?_)
  refine wl_of hX hb cL_1025 (rw_iadd (pc' := 1026) rfl ?_)
  refine wl_of hX hb cL_1026 (xa_I (so := 0) (pc' := 1027) (a := 0) hW g0 (wsh_s _) (by omega) (wty_s _ _) (by omega) (by omega) rfl (fun b4110 b4111 => ?_))
  refine wl_of hX hb cL_1027 (rw_aload_n (pc' := 1028) (v := .ref 0) rfl rfl rfl ?_)
  refine wl_of hX hb cL_1028 (rw_iload (pc' := 1030) (z := i) rfl rfl ?_)
  refine wl_of hX hb cL_1030 (rw_iconst (pc' := 1031) rfl ?_)
  refine wl_of hX hb cL_1031 (rw_iadd (pc' := 1032) rfl ?_)
  refine wl_of hX hb cL_1032 (xa_I (so := 0) (pc' := 1033) (a := 0) hW g0 (wsh_s _) (by omega) (wty_s _ _) (by omega) (by omega) rfl (fun b4112 b4113 => ?_))
  obtain ⟨B, tc, tm, cu, dr, C8, e8, d8, n8, g8, ce8, e0, gtc, htc, em, gtm, htm, ecu, gcu, edr, gdr, hcu, hdr, hdec, hded, hsp, hC1, hC2, hcu8, hrb8, hcg8, hmn8, hE, hZ, hn8, hXA, hV8, hSG, ece8, gce8, hcen8, hhdr8, hknn8, -⟩ := hXI
  have hN3 := RB_n3 hrb8
  have hE13 : ∀ h : Nat, h < 24 → 0 ≤ e8 13 h ∧ e8 13 h ≤ 100 := fun k hk => by
    obtain ⟨s, h1, h2, h3⟩ := hcu8.1.2.2.1
    exact ⟨(h3 k hk).1, (h3 k hk).2.1⟩
  have hXW := hXA.1
  have hXN := hXA.2
  have hE0 : e8 0 3 = d8 0 3 ∧ e8 0 0 = d8 0 0 := by
    have h := hE 0 (by decide)
    exact ⟨congrFun h 3, congrFun h 0⟩
  have u4114 := CU_k hcu8
  have h4115 : CY T H cu (d8 0 3) g8 (H cu 17) := ⟨hcg8, rfl⟩
  have h4116 : RY T H m (d8 0 3) g8 (H m 32) := ⟨hmn8, rfl⟩
  obtain ⟨t9, ht9⟩ : ∃ t : Int, t = H x 9 := ⟨_, rfl⟩
  obtain ⟨y9, hy9⟩ : ∃ y : Int, y = H 0 ((i + 2).toNat) := ⟨_, rfl⟩
  obtain ⟨r4117, q4118, g4119⟩ := hW.ref gx (t' := 6) (n := 13) (j := 2) (p := 0) (q := 0) rfl (by decide) rfl
  refine wl_of hX hb cL_1033 (xc_V (pc' := 1036) (r := x) (as := [vI (H 0 ((i + 1).toNat)), vI (H 0 ((i + 2).toNat))]) (st := []) (lm_11_135) rfl rfl (Nat.le_of_ble_eq_true rfl) hW gx sh_1 (by decide) rfl (by decide) (u_114 (e := e8) (d := d8) (n := n8) hW gx ⟨by omega, by omega⟩ ⟨by omega, by omega⟩ ecu gcu q4118 g4119 ece8 gce8 (by assumption) (by assumption) (by omega) (by omega) (by omega) (by omega) hcu8 hcen8 hhdr8) (fun R4120 T4121 H4122 p4123 => ?_))
  obtain ⟨e4124, w4126, f4127, z4128, e4125, b4129, p4130⟩ := p4123
  subst e4124
  subst e4125
  show WL _ _ _ _ 1036 [(4, vI i), (3, .ref o), (2, .ref m), (1, .ref x), (0, .ref 0)] [vI z4128] _ H4122
  refine wl_of hX hb cL_1036 (rw_pop (pc' := 1037) rfl rfl ?_)
  refine wl_of hX hb cL_1037 (rw_aload_n (pc' := 1038) (v := .ref m) rfl rfl rfl ?_)
  refine wl_of hX hb cL_1038 (rw_aload_n (pc' := 1039) (v := .ref 0) rfl rfl rfl ?_)
  refine wl_of hX hb cL_1039 (rw_iload (pc' := 1041) (z := i) rfl rfl ?_)
  refine wl_of hX hb cL_1041 (rw_iconst (pc' := 1042) rfl ?_)
  refine wl_of hX hb cL_1042 (rw_iadd (pc' := 1043) rfl ?_)
  have k4134 : H4122 0 ((i + 1).toNat) = H 0 ((i + 1).toNat) := (f4127 0 ((i + 1).toNat) _ g0 (wmem_s rfl))
  refine wl_of hX hb cL_1043 (xa_I (so := 0) (pc' := 1044) (a := 0) w4126 g0 (wsh_s _) (by omega) (wty_s _ _) (by omega) (by omega) rfl (fun b4132 b4133 => ?_))
  refine wl_of hX hb cL_1044 (rw_aload_n (pc' := 1045) (v := .ref 0) rfl rfl rfl ?_)
  refine wl_of hX hb cL_1045 (rw_iload (pc' := 1047) (z := i) rfl rfl ?_)
  refine wl_of hX hb cL_1047 (rw_iconst (pc' := 1048) rfl ?_)
  refine wl_of hX hb cL_1048 (rw_iadd (pc' := 1049) rfl ?_)
  have k4137 : H4122 0 ((i + 2).toNat) = H 0 ((i + 2).toNat) := (f4127 0 ((i + 2).toNat) _ g0 (wmem_s rfl))
  refine wl_of hX hb cL_1049 (xa_I (so := 0) (pc' := 1050) (a := 0) w4126 g0 (wsh_s _) (by omega) (wty_s _ _) (by omega) (by omega) rfl (fun b4135 b4136 => ?_))
  have k4138 : wKI H4122 m = wKI H m := (wKI_fr hW gm f4127 rfl)
  have k4139 : H4122 x 9 = H x 9 := (f4127 x 9 _ gx rfl)
  have k4140 : H4122 m 6 = H m 6 := (f4127 m 6 _ gm rfl)
  have k4141 : H4122 x 11 = H x 11 := (f4127 x 11 _ gx rfl)
  have k4142 : H4122 m 13 = H m 13 := (f4127 m 13 _ gm rfl)
  have k4143 : H4122 x 8 = H x 8 := (f4127 x 8 _ gx rfl)
  have k4144 : H4122 m 3 = H m 3 := (f4127 m 3 _ gm rfl)
  rw [show H4122 0 ((i + 2).toNat) = H 0 ((i + 2).toNat) by omega]
  rw [show H4122 0 ((i + 1).toNat) = H 0 ((i + 1).toNat) by omega]
  have h4145 : RB T H4122 m e8 d8 := (RB_fr hW gm f4127 rfl hrb8)
  have h4146 : KNN T H4122 m e8 d8 := (KNN_fr hW gm f4127 rfl hknn8)
  refine wl_of hX hb cL_1050 (xc_V (pc' := 1053) (r := m) (as := [vI (H 0 ((i + 1).toNat)), vI (H 0 ((i + 2).toNat))]) (st := []) (lm_11_138) rfl rfl (Nat.le_of_ble_eq_true rfl) w4126 gm sh_42 (by decide) rfl (by decide) (u_261 (e := e8) (d := d8) w4126 gm ⟨by omega, by omega⟩ ⟨by omega, by omega⟩ (by omega) (by assumption) (by assumption) (by assumption) (by assumption) h4145 h4146) (fun R4147 T4148 H4149 p4150 => ?_))
  obtain ⟨e4151, w4153, f4154, z4155, e4152, b4156, p4157⟩ := p4150
  subst e4151
  subst e4152
  obtain ⟨a4158, a4159⟩ := p4157
  show WL _ _ _ _ 1053 [(4, vI i), (3, .ref o), (2, .ref m), (1, .ref x), (0, .ref 0)] [vI z4155] _ H4149
  refine wl_of hX hb cL_1053 (rw_pop (pc' := 1054) rfl rfl ?_)
  refine wl_of hX hb cL_1054 (rw_goto (p1 := 1654) (by decide) ?_)
  have k4160 : H4149 x 9 = H4122 x 9 := (f4154 x 9 _ gx rfl)
  have k4161 : H4149 m 6 = H4122 m 6 := (f4154 m 6 _ gm rfl)
  have k4162 : H4149 x 11 = H4122 x 11 := (f4154 x 11 _ gx rfl)
  have k4163 : H4149 m 13 = H4122 m 13 := (f4154 m 13 _ gm rfl)
  have k4164 : H4149 x 8 = H4122 x 8 := (f4154 x 8 _ gx rfl)
  have k4165 : H4149 m 3 = H4122 m 3 := (f4154 m 3 _ gm rfl)
  have k4166 : H4149 x 0 = H x 0 := ((f4154 x 0 _ gx rfl).trans (f4127 x 0 _ gx rfl))
  have q4167 : H4149 x 0 = (tc : Int) := k4166.trans e0
  have k4168 : H4149 m 5 = H m 5 := ((f4154 m 5 _ gm rfl).trans (f4127 m 5 _ gm rfl))
  have q4169 : H4149 m 5 = (tm : Int) := k4168.trans em
  have k4170 : H4149 x 6 = H x 6 := ((f4154 x 6 _ gx rfl).trans (f4127 x 6 _ gx rfl))
  have q4171 : H4149 x 6 = (cu : Int) := k4170.trans ecu
  have k4172 : H4149 x 7 = H x 7 := ((f4154 x 7 _ gx rfl).trans (f4127 x 7 _ gx rfl))
  have q4173 : H4149 x 7 = (dr : Int) := k4172.trans edr
  have h4174 : CEN T H4149 ce8 e8 d8 := (CEN_fr w4126 gce8 f4154 rfl p4130)
  have h4175 : TP T H4149 tc B := (TP_fr w4126 gtc f4154 rfl (TP_fr hW gtc f4127 rfl htc))
  have h4176 : TM T H4149 tm B := (TM_fr w4126 gtm f4154 rfl (TM_fr hW gtm f4127 rfl htm))
  have h4177 : DD T H4149 cu  := (DD_fr w4126 gcu f4154 rfl (DD_fr hW gcu f4127 rfl hcu))
  have h4178 : DD T H4149 dr  := (DD_fr w4126 gdr f4154 rfl (DD_fr hW gdr f4127 rfl hdr))
  have h4179 : DE T H4149 cu  := (DE_fr w4126 gcu f4154 rfl (DE_fr hW gcu f4127 rfl hdec))
  have h4180 : DE T H4149 dr  := (DE_fr w4126 gdr f4154 rfl (DE_fr hW gdr f4127 rfl hded))
  have h4181 : SP T H4149 x C8 := (SP_fr w4126 gx f4154 rfl (SP_fr hW gx f4127 rfl hsp))
  have h4182 : CU T H4149 cu e8 d8 n8 := (CU_fr w4126 gcu f4154 rfl (CU_fr hW gcu f4127 rfl hcu8))
  have h4183 : CY T H4149 cu (d8 0 3) g8 (H cu 17) := (CY_fr w4126 gcu f4154 rfl (CY_fr hW gcu f4127 rfl h4115))
  have k4184 : H4149 x 3 = H x 3 := ((f4154 x 3 _ gx rfl).trans (f4127 x 3 _ gx rfl))
  have q4185 : H4149 x 3 = (ce8 : Int) := k4184.trans ece8
  have h4186 : HDR T H4149 ce8  := (HDR_fr w4126 gce8 f4154 rfl (HDR_fr hW gce8 f4127 rfl hhdr8))
  have h4187 : RY T H4149 m (d8 0 3) g8 (H m 32) := (RY_fr w4126 gm f4154 rfl (RY_fr hW gm f4127 rfl h4116))
  have h4188 : RB T H4149 m e8 d8 := (RB_fr w4126 gm f4154 rfl h4145)
  exact WL.loc hX (by simp) (next T H4149 ⟨⟨w4153, g0, gx, gm, go, by omega, by omega⟩, ⟨_, tc, tm, cu, dr, _, _, _, _, _, ce8, q4167, gtc, h4175, q4169, gtm, h4176, q4171, gcu, q4173, gdr, h4177, h4178, h4179, h4180, h4181, hC1, hC2, h4182, h4188, (h4183).1, (h4187).1, hE, hZ, (by omega), (by assumption), (by omega), (by first | assumption | exact SG_0), q4185, gce8, h4174, h4186, a4159, gm⟩, by omega, by omega⟩ (by omega) (by omega))
set_option maxHeartbeats 4000000 in
theorem wl_c28 {kt : Nat → Option mc_E} {CB SB : Nat} {X : mc_S → Prop} {T : wq_T} {H : wq_H} {Len x m o : Nat} {i : Int} (hX : wlX kt CB SB X) (hb : T.2.1 ≤ CB ∧ T.2.2.1 ≤ SB) (hI : wlJ Len x m o T H) (hL : Len ≤ 3072) (hi : 0 ≤ i ∧ i + 6 ≤ Len) (hb2 : T.2.1 + 20 ≤ CB ∧ T.2.2.1 + 500 ≤ SB)  (next : ∀ T' H', wlJ Len x m o T' H' → T'.2.1 ≤ T.2.1 + 20 → T'.2.2.1 ≤ T.2.2.1 + 500 → WL kt CB SB X 1654 (wlL i x m o) [] T' H') : WL kt CB SB X 1057 (wlL i x m o) [] T H := by
  obtain ⟨⟨hW, g0, gx, gm, go, hK, hr⟩, hXI, hY1, hY2⟩ := hI
  refine wl_of hX hb cL_1057 (rw_aload_n (pc' := 1058) (v := .ref x) rfl rfl rfl ?_)
  refine wl_of hX hb cL_1058 (rw_aload_n (pc' := 1059) (v := .ref 0) rfl rfl rfl ?_)
  refine wl_of hX hb cL_1059 (rw_iload (pc' := 1061) (z := i) rfl rfl ?_)
  refine wl_of hX hb cL_1061 (rw_iconst (pc' := 1062) rfl ?_)
  refine wl_of hX hb cL_1062 (rw_iadd (pc' := 1063) rfl ?_)
  refine wl_of hX hb cL_1063 (xa_I (so := 0) (pc' := 1064) (a := 0) hW g0 (wsh_s _) (by omega) (wty_s _ _) (by omega) (by omega) rfl (fun b4189 b4190 => ?_))
  refine wl_of hX hb cL_1064 (rw_aload_n (pc' := 1065) (v := .ref 0) rfl rfl rfl ?_)
  refine wl_of hX hb cL_1065 (rw_iload (pc' := 1067) (z := i) rfl rfl ?_)
  refine wl_of hX hb cL_1067 (rw_iconst (pc' := 1068) rfl ?_)
  refine wl_of hX hb cL_1068 (rw_iadd (pc' := 1069) rfl ?_)
  refine wl_of hX hb cL_1069 (xa_I (so := 0) (pc' := 1070) (a := 0) hW g0 (wsh_s _) (by omega) (wty_s _ _) (by omega) (by omega) rfl (fun b4191 b4192 => ?_))
  refine wl_of hX hb cL_1070 (rw_if_eq (p1 := 1077) (p2 := 1073) (by decide) rfl ⟨by omega, by omega⟩ (fun c4193 => ?_) (fun c4193 => ?_))
  · refine wl_of hX hb cL_1077 (rw_iconst (pc' := 1078) rfl ?_)
    obtain ⟨B, tc, tm, cu, dr, C8, e8, d8, n8, g8, ce8, e0, gtc, htc, em, gtm, htm, ecu, gcu, edr, gdr, hcu, hdr, hdec, hded, hsp, hC1, hC2, hcu8, hrb8, hcg8, hmn8, hE, hZ, hn8, hXA, hV8, hSG, ece8, gce8, hcen8, hhdr8, hknn8, -⟩ := hXI
    have hN3 := RB_n3 hrb8
    have hE13 : ∀ h : Nat, h < 24 → 0 ≤ e8 13 h ∧ e8 13 h ≤ 100 := fun k hk => by
      obtain ⟨s, h1, h2, h3⟩ := hcu8.1.2.2.1
      exact ⟨(h3 k hk).1, (h3 k hk).2.1⟩
    have hXW := hXA.1
    have hXN := hXA.2
    have hE0 : e8 0 3 = d8 0 3 ∧ e8 0 0 = d8 0 0 := by
      have h := hE 0 (by decide)
      exact ⟨congrFun h 3, congrFun h 0⟩
    have u4194 := CU_k hcu8
    have h4195 : CY T H cu (d8 0 3) g8 (H cu 17) := ⟨hcg8, rfl⟩
    have h4196 : RY T H m (d8 0 3) g8 (H m 32) := ⟨hmn8, rfl⟩
    obtain ⟨t9, ht9⟩ : ∃ t : Int, t = H x 9 := ⟨_, rfl⟩
    obtain ⟨y9, hy9⟩ : ∃ y : Int, y = 0 := ⟨_, rfl⟩
    obtain ⟨r4197, q4198, g4199⟩ := hW.ref gx (t' := 6) (n := 13) (j := 2) (p := 0) (q := 0) rfl (by decide) rfl
    refine wl_of hX hb cL_1078 (xc_V (pc' := 1081) (r := x) (as := [vI (H 0 ((i + 1).toNat)), vI 0]) (st := []) (lm_11_139) rfl rfl (Nat.le_of_ble_eq_true rfl) hW gx sh_1 (by decide) rfl (by decide) (u_117 (e := e8) (d := d8) (n := n8) hW gx ⟨by omega, by omega⟩ ⟨by decide, by decide⟩ ecu gcu q4198 g4199 ece8 gce8 (by assumption) (by assumption) (by omega) (by omega) (by omega) (by omega) hcu8 hcen8 hhdr8) (fun R4200 T4201 H4202 p4203 => ?_))
    obtain ⟨e4204, w4206, f4207, z4208, e4205, b4209, p4210⟩ := p4203
    subst e4204
    subst e4205
    show WL _ _ _ _ 1081 [(4, vI i), (3, .ref o), (2, .ref m), (1, .ref x), (0, .ref 0)] [vI z4208] _ H4202
    refine wl_of hX hb cL_1081 (rw_pop (pc' := 1082) rfl rfl ?_)
    refine wl_of hX hb cL_1082 (rw_aload_n (pc' := 1083) (v := .ref m) rfl rfl rfl ?_)
    refine wl_of hX hb cL_1083 (rw_aload_n (pc' := 1084) (v := .ref 0) rfl rfl rfl ?_)
    refine wl_of hX hb cL_1084 (rw_iload (pc' := 1086) (z := i) rfl rfl ?_)
    refine wl_of hX hb cL_1086 (rw_iconst (pc' := 1087) rfl ?_)
    refine wl_of hX hb cL_1087 (rw_iadd (pc' := 1088) rfl ?_)
    have k4214 : H4202 0 ((i + 1).toNat) = H 0 ((i + 1).toNat) := (f4207 0 ((i + 1).toNat) _ g0 (wmem_s rfl))
    refine wl_of hX hb cL_1088 (xa_I (so := 0) (pc' := 1089) (a := 0) w4206 g0 (wsh_s _) (by omega) (wty_s _ _) (by omega) (by omega) rfl (fun b4212 b4213 => ?_))
    refine wl_of hX hb cL_1089 (rw_aload_n (pc' := 1090) (v := .ref 0) rfl rfl rfl ?_)
    refine wl_of hX hb cL_1090 (rw_iload (pc' := 1092) (z := i) rfl rfl ?_)
    refine wl_of hX hb cL_1092 (rw_iconst (pc' := 1093) rfl ?_)
    refine wl_of hX hb cL_1093 (rw_iadd (pc' := 1094) rfl ?_)
    have k4217 : H4202 0 ((i + 2).toNat) = H 0 ((i + 2).toNat) := (f4207 0 ((i + 2).toNat) _ g0 (wmem_s rfl))
    refine wl_of hX hb cL_1094 (xa_I (so := 0) (pc' := 1095) (a := 0) w4206 g0 (wsh_s _) (by omega) (wty_s _ _) (by omega) (by omega) rfl (fun b4215 b4216 => ?_))
    refine wl_of hX hb cL_1095 (rw_if_eq (p1 := 1102) (p2 := 1098) (by decide) rfl ⟨by omega, by omega⟩ (fun c4218 => ?_) (fun c4218 => ?_))
    · refine wl_of hX hb cL_1102 (rw_iconst (pc' := 1103) rfl ?_)
      have k4219 : wKI H4202 m = wKI H m := (wKI_fr hW gm f4207 rfl)
      have k4220 : H4202 x 9 = H x 9 := (f4207 x 9 _ gx rfl)
      have k4221 : H4202 m 6 = H m 6 := (f4207 m 6 _ gm rfl)
      have k4222 : H4202 x 11 = H x 11 := (f4207 x 11 _ gx rfl)
      have k4223 : H4202 m 13 = H m 13 := (f4207 m 13 _ gm rfl)
      have k4224 : H4202 x 8 = H x 8 := (f4207 x 8 _ gx rfl)
      have k4225 : H4202 m 3 = H m 3 := (f4207 m 3 _ gm rfl)
      rw [show H4202 0 ((i + 1).toNat) = H 0 ((i + 1).toNat) by omega]
      have h4226 : RB T H4202 m e8 d8 := (RB_fr hW gm f4207 rfl hrb8)
      have h4227 : KNN T H4202 m e8 d8 := (KNN_fr hW gm f4207 rfl hknn8)
      refine wl_of hX hb cL_1103 (xc_V (pc' := 1106) (r := m) (as := [vI (H 0 ((i + 1).toNat)), vI 0]) (st := []) (lm_11_142) rfl rfl (Nat.le_of_ble_eq_true rfl) w4206 gm sh_42 (by decide) rfl (by decide) (u_263 (e := e8) (d := d8) w4206 gm ⟨by omega, by omega⟩ ⟨by decide, by decide⟩ (by omega) (by assumption) (by assumption) (by assumption) (by assumption) h4226 h4227) (fun R4228 T4229 H4230 p4231 => ?_))
      obtain ⟨e4232, w4234, f4235, z4236, e4233, b4237, p4238⟩ := p4231
      subst e4232
      subst e4233
      obtain ⟨a4239, a4240⟩ := p4238
      show WL _ _ _ _ 1106 [(4, vI i), (3, .ref o), (2, .ref m), (1, .ref x), (0, .ref 0)] [vI z4236] _ H4230
      refine wl_of hX hb cL_1106 (rw_pop (pc' := 1107) rfl rfl ?_)
      refine wl_of hX hb cL_1107 (rw_goto (p1 := 1654) (by decide) ?_)
      have k4241 : H4230 x 9 = H4202 x 9 := (f4235 x 9 _ gx rfl)
      have k4242 : H4230 m 6 = H4202 m 6 := (f4235 m 6 _ gm rfl)
      have k4243 : H4230 x 11 = H4202 x 11 := (f4235 x 11 _ gx rfl)
      have k4244 : H4230 m 13 = H4202 m 13 := (f4235 m 13 _ gm rfl)
      have k4245 : H4230 x 8 = H4202 x 8 := (f4235 x 8 _ gx rfl)
      have k4246 : H4230 m 3 = H4202 m 3 := (f4235 m 3 _ gm rfl)
      have k4247 : H4230 x 0 = H x 0 := ((f4235 x 0 _ gx rfl).trans (f4207 x 0 _ gx rfl))
      have q4248 : H4230 x 0 = (tc : Int) := k4247.trans e0
      have k4249 : H4230 m 5 = H m 5 := ((f4235 m 5 _ gm rfl).trans (f4207 m 5 _ gm rfl))
      have q4250 : H4230 m 5 = (tm : Int) := k4249.trans em
      have k4251 : H4230 x 6 = H x 6 := ((f4235 x 6 _ gx rfl).trans (f4207 x 6 _ gx rfl))
      have q4252 : H4230 x 6 = (cu : Int) := k4251.trans ecu
      have k4253 : H4230 x 7 = H x 7 := ((f4235 x 7 _ gx rfl).trans (f4207 x 7 _ gx rfl))
      have q4254 : H4230 x 7 = (dr : Int) := k4253.trans edr
      have h4255 : CEN T H4230 ce8 e8 d8 := (CEN_fr w4206 gce8 f4235 rfl p4210)
      have h4256 : TP T H4230 tc B := (TP_fr w4206 gtc f4235 rfl (TP_fr hW gtc f4207 rfl htc))
      have h4257 : TM T H4230 tm B := (TM_fr w4206 gtm f4235 rfl (TM_fr hW gtm f4207 rfl htm))
      have h4258 : DD T H4230 cu  := (DD_fr w4206 gcu f4235 rfl (DD_fr hW gcu f4207 rfl hcu))
      have h4259 : DD T H4230 dr  := (DD_fr w4206 gdr f4235 rfl (DD_fr hW gdr f4207 rfl hdr))
      have h4260 : DE T H4230 cu  := (DE_fr w4206 gcu f4235 rfl (DE_fr hW gcu f4207 rfl hdec))
      have h4261 : DE T H4230 dr  := (DE_fr w4206 gdr f4235 rfl (DE_fr hW gdr f4207 rfl hded))
      have h4262 : SP T H4230 x C8 := (SP_fr w4206 gx f4235 rfl (SP_fr hW gx f4207 rfl hsp))
      have h4263 : CU T H4230 cu e8 d8 n8 := (CU_fr w4206 gcu f4235 rfl (CU_fr hW gcu f4207 rfl hcu8))
      have h4264 : CY T H4230 cu (d8 0 3) g8 (H cu 17) := (CY_fr w4206 gcu f4235 rfl (CY_fr hW gcu f4207 rfl h4195))
      have k4265 : H4230 x 3 = H x 3 := ((f4235 x 3 _ gx rfl).trans (f4207 x 3 _ gx rfl))
      have q4266 : H4230 x 3 = (ce8 : Int) := k4265.trans ece8
      have h4267 : HDR T H4230 ce8  := (HDR_fr w4206 gce8 f4235 rfl (HDR_fr hW gce8 f4207 rfl hhdr8))
      have h4268 : RY T H4230 m (d8 0 3) g8 (H m 32) := (RY_fr w4206 gm f4235 rfl (RY_fr hW gm f4207 rfl h4196))
      have h4269 : RB T H4230 m e8 d8 := (RB_fr w4206 gm f4235 rfl h4226)
      exact WL.loc hX (by simp) (next T H4230 ⟨⟨w4234, g0, gx, gm, go, by omega, by omega⟩, ⟨_, tc, tm, cu, dr, _, _, _, _, _, ce8, q4248, gtc, h4256, q4250, gtm, h4257, q4252, gcu, q4254, gdr, h4258, h4259, h4260, h4261, h4262, hC1, hC2, h4263, h4269, (h4264).1, (h4268).1, hE, hZ, (by omega), (by assumption), (by omega), (by first | assumption | exact SG_0), q4266, gce8, h4255, h4267, a4240, gm⟩, by omega, by omega⟩ (by omega) (by omega))
    · exfalso
      omega
  · refine wl_of hX hb cL_1073 (rw_iconst (pc' := 1074) rfl ?_)
    refine wl_of hX hb cL_1074 (rw_goto (p1 := 1078) (by decide) ?_)
    obtain ⟨B, tc, tm, cu, dr, C8, e8, d8, n8, g8, ce8, e0, gtc, htc, em, gtm, htm, ecu, gcu, edr, gdr, hcu, hdr, hdec, hded, hsp, hC1, hC2, hcu8, hrb8, hcg8, hmn8, hE, hZ, hn8, hXA, hV8, hSG, ece8, gce8, hcen8, hhdr8, hknn8, -⟩ := hXI
    have hN3 := RB_n3 hrb8
    have hE13 : ∀ h : Nat, h < 24 → 0 ≤ e8 13 h ∧ e8 13 h ≤ 100 := fun k hk => by
      obtain ⟨s, h1, h2, h3⟩ := hcu8.1.2.2.1
      exact ⟨(h3 k hk).1, (h3 k hk).2.1⟩
    have hXW := hXA.1
    have hXN := hXA.2
    have hE0 : e8 0 3 = d8 0 3 ∧ e8 0 0 = d8 0 0 := by
      have h := hE 0 (by decide)
      exact ⟨congrFun h 3, congrFun h 0⟩
    have u4270 := CU_k hcu8
    have h4271 : CY T H cu (d8 0 3) g8 (H cu 17) := ⟨hcg8, rfl⟩
    have h4272 : RY T H m (d8 0 3) g8 (H m 32) := ⟨hmn8, rfl⟩
    obtain ⟨t9, ht9⟩ : ∃ t : Int, t = H x 9 := ⟨_, rfl⟩
    obtain ⟨y9, hy9⟩ : ∃ y : Int, y = 1 := ⟨_, rfl⟩
    obtain ⟨r4273, q4274, g4275⟩ := hW.ref gx (t' := 6) (n := 13) (j := 2) (p := 0) (q := 0) rfl (by decide) rfl
    refine wl_of hX hb cL_1078 (xc_V (pc' := 1081) (r := x) (as := [vI (H 0 ((i + 1).toNat)), vI 1]) (st := []) (lm_11_139) rfl rfl (Nat.le_of_ble_eq_true rfl) hW gx sh_1 (by decide) rfl (by decide) (u_117 (e := e8) (d := d8) (n := n8) hW gx ⟨by omega, by omega⟩ ⟨by decide, by decide⟩ ecu gcu q4274 g4275 ece8 gce8 (by assumption) (by assumption) (by omega) (by omega) (by omega) (by omega) hcu8 hcen8 hhdr8) (fun R4276 T4277 H4278 p4279 => ?_))
    obtain ⟨e4280, w4282, f4283, z4284, e4281, b4285, p4286⟩ := p4279
    subst e4280
    subst e4281
    show WL _ _ _ _ 1081 [(4, vI i), (3, .ref o), (2, .ref m), (1, .ref x), (0, .ref 0)] [vI z4284] _ H4278
    refine wl_of hX hb cL_1081 (rw_pop (pc' := 1082) rfl rfl ?_)
    refine wl_of hX hb cL_1082 (rw_aload_n (pc' := 1083) (v := .ref m) rfl rfl rfl ?_)
    refine wl_of hX hb cL_1083 (rw_aload_n (pc' := 1084) (v := .ref 0) rfl rfl rfl ?_)
    refine wl_of hX hb cL_1084 (rw_iload (pc' := 1086) (z := i) rfl rfl ?_)
    refine wl_of hX hb cL_1086 (rw_iconst (pc' := 1087) rfl ?_)
    refine wl_of hX hb cL_1087 (rw_iadd (pc' := 1088) rfl ?_)
    have k4290 : H4278 0 ((i + 1).toNat) = H 0 ((i + 1).toNat) := (f4283 0 ((i + 1).toNat) _ g0 (wmem_s rfl))
    refine wl_of hX hb cL_1088 (xa_I (so := 0) (pc' := 1089) (a := 0) w4282 g0 (wsh_s _) (by omega) (wty_s _ _) (by omega) (by omega) rfl (fun b4288 b4289 => ?_))
    refine wl_of hX hb cL_1089 (rw_aload_n (pc' := 1090) (v := .ref 0) rfl rfl rfl ?_)
    refine wl_of hX hb cL_1090 (rw_iload (pc' := 1092) (z := i) rfl rfl ?_)
    refine wl_of hX hb cL_1092 (rw_iconst (pc' := 1093) rfl ?_)
    refine wl_of hX hb cL_1093 (rw_iadd (pc' := 1094) rfl ?_)
    have k4293 : H4278 0 ((i + 2).toNat) = H 0 ((i + 2).toNat) := (f4283 0 ((i + 2).toNat) _ g0 (wmem_s rfl))
    refine wl_of hX hb cL_1094 (xa_I (so := 0) (pc' := 1095) (a := 0) w4282 g0 (wsh_s _) (by omega) (wty_s _ _) (by omega) (by omega) rfl (fun b4291 b4292 => ?_))
    refine wl_of hX hb cL_1095 (rw_if_eq (p1 := 1102) (p2 := 1098) (by decide) rfl ⟨by omega, by omega⟩ (fun c4294 => ?_) (fun c4294 => ?_))
    · refine wl_of hX hb cL_1102 (rw_iconst (pc' := 1103) rfl ?_)
      have k4295 : wKI H4278 m = wKI H m := (wKI_fr hW gm f4283 rfl)
      have k4296 : H4278 x 9 = H x 9 := (f4283 x 9 _ gx rfl)
      have k4297 : H4278 m 6 = H m 6 := (f4283 m 6 _ gm rfl)
      have k4298 : H4278 x 11 = H x 11 := (f4283 x 11 _ gx rfl)
      have k4299 : H4278 m 13 = H m 13 := (f4283 m 13 _ gm rfl)
      have k4300 : H4278 x 8 = H x 8 := (f4283 x 8 _ gx rfl)
      have k4301 : H4278 m 3 = H m 3 := (f4283 m 3 _ gm rfl)
      rw [show H4278 0 ((i + 1).toNat) = H 0 ((i + 1).toNat) by omega]
      have h4302 : RB T H4278 m e8 d8 := (RB_fr hW gm f4283 rfl hrb8)
      have h4303 : KNN T H4278 m e8 d8 := (KNN_fr hW gm f4283 rfl hknn8)
      refine wl_of hX hb cL_1103 (xc_V (pc' := 1106) (r := m) (as := [vI (H 0 ((i + 1).toNat)), vI 0]) (st := []) (lm_11_142) rfl rfl (Nat.le_of_ble_eq_true rfl) w4282 gm sh_42 (by decide) rfl (by decide) (u_263 (e := e8) (d := d8) w4282 gm ⟨by omega, by omega⟩ ⟨by decide, by decide⟩ (by omega) (by assumption) (by assumption) (by assumption) (by assumption) h4302 h4303) (fun R4304 T4305 H4306 p4307 => ?_))
      obtain ⟨e4308, w4310, f4311, z4312, e4309, b4313, p4314⟩ := p4307
      subst e4308
      subst e4309
      obtain ⟨a4315, a4316⟩ := p4314
      show WL _ _ _ _ 1106 [(4, vI i), (3, .ref o), (2, .ref m), (1, .ref x), (0, .ref 0)] [vI z4312] _ H4306
      refine wl_of hX hb cL_1106 (rw_pop (pc' := 1107) rfl rfl ?_)
      refine wl_of hX hb cL_1107 (rw_goto (p1 := 1654) (by decide) ?_)
      have k4317 : H4306 x 9 = H4278 x 9 := (f4311 x 9 _ gx rfl)
      have k4318 : H4306 m 6 = H4278 m 6 := (f4311 m 6 _ gm rfl)
      have k4319 : H4306 x 11 = H4278 x 11 := (f4311 x 11 _ gx rfl)
      have k4320 : H4306 m 13 = H4278 m 13 := (f4311 m 13 _ gm rfl)
      have k4321 : H4306 x 8 = H4278 x 8 := (f4311 x 8 _ gx rfl)
      have k4322 : H4306 m 3 = H4278 m 3 := (f4311 m 3 _ gm rfl)
      have k4323 : H4306 x 0 = H x 0 := ((f4311 x 0 _ gx rfl).trans (f4283 x 0 _ gx rfl))
      have q4324 : H4306 x 0 = (tc : Int) := k4323.trans e0
      have k4325 : H4306 m 5 = H m 5 := ((f4311 m 5 _ gm rfl).trans (f4283 m 5 _ gm rfl))
      have q4326 : H4306 m 5 = (tm : Int) := k4325.trans em
      have k4327 : H4306 x 6 = H x 6 := ((f4311 x 6 _ gx rfl).trans (f4283 x 6 _ gx rfl))
      have q4328 : H4306 x 6 = (cu : Int) := k4327.trans ecu
      have k4329 : H4306 x 7 = H x 7 := ((f4311 x 7 _ gx rfl).trans (f4283 x 7 _ gx rfl))
      have q4330 : H4306 x 7 = (dr : Int) := k4329.trans edr
      have h4331 : CEN T H4306 ce8 e8 d8 := (CEN_fr w4282 gce8 f4311 rfl p4286)
      have h4332 : TP T H4306 tc B := (TP_fr w4282 gtc f4311 rfl (TP_fr hW gtc f4283 rfl htc))
      have h4333 : TM T H4306 tm B := (TM_fr w4282 gtm f4311 rfl (TM_fr hW gtm f4283 rfl htm))
      have h4334 : DD T H4306 cu  := (DD_fr w4282 gcu f4311 rfl (DD_fr hW gcu f4283 rfl hcu))
      have h4335 : DD T H4306 dr  := (DD_fr w4282 gdr f4311 rfl (DD_fr hW gdr f4283 rfl hdr))
      have h4336 : DE T H4306 cu  := (DE_fr w4282 gcu f4311 rfl (DE_fr hW gcu f4283 rfl hdec))
      have h4337 : DE T H4306 dr  := (DE_fr w4282 gdr f4311 rfl (DE_fr hW gdr f4283 rfl hded))
      have h4338 : SP T H4306 x C8 := (SP_fr w4282 gx f4311 rfl (SP_fr hW gx f4283 rfl hsp))
      have h4339 : CU T H4306 cu e8 d8 n8 := (CU_fr w4282 gcu f4311 rfl (CU_fr hW gcu f4283 rfl hcu8))
      have h4340 : CY T H4306 cu (d8 0 3) g8 (H cu 17) := (CY_fr w4282 gcu f4311 rfl (CY_fr hW gcu f4283 rfl h4271))
      have k4341 : H4306 x 3 = H x 3 := ((f4311 x 3 _ gx rfl).trans (f4283 x 3 _ gx rfl))
      have q4342 : H4306 x 3 = (ce8 : Int) := k4341.trans ece8
      have h4343 : HDR T H4306 ce8  := (HDR_fr w4282 gce8 f4311 rfl (HDR_fr hW gce8 f4283 rfl hhdr8))
      have h4344 : RY T H4306 m (d8 0 3) g8 (H m 32) := (RY_fr w4282 gm f4311 rfl (RY_fr hW gm f4283 rfl h4272))
      have h4345 : RB T H4306 m e8 d8 := (RB_fr w4282 gm f4311 rfl h4302)
      exact WL.loc hX (by simp) (next T H4306 ⟨⟨w4310, g0, gx, gm, go, by omega, by omega⟩, ⟨_, tc, tm, cu, dr, _, _, _, _, _, ce8, q4324, gtc, h4332, q4326, gtm, h4333, q4328, gcu, q4330, gdr, h4334, h4335, h4336, h4337, h4338, hC1, hC2, h4339, h4345, (h4340).1, (h4344).1, hE, hZ, (by omega), (by assumption), (by omega), (by first | assumption | exact SG_0), q4342, gce8, h4331, h4343, a4316, gm⟩, by omega, by omega⟩ (by omega) (by omega))
    · refine wl_of hX hb cL_1098 (rw_iconst (pc' := 1099) rfl ?_)
      refine wl_of hX hb cL_1099 (rw_goto (p1 := 1103) (by decide) ?_)
      have k4346 : wKI H4278 m = wKI H m := (wKI_fr hW gm f4283 rfl)
      have k4347 : H4278 x 9 = H x 9 := (f4283 x 9 _ gx rfl)
      have k4348 : H4278 m 6 = H m 6 := (f4283 m 6 _ gm rfl)
      have k4349 : H4278 x 11 = H x 11 := (f4283 x 11 _ gx rfl)
      have k4350 : H4278 m 13 = H m 13 := (f4283 m 13 _ gm rfl)
      have k4351 : H4278 x 8 = H x 8 := (f4283 x 8 _ gx rfl)
      have k4352 : H4278 m 3 = H m 3 := (f4283 m 3 _ gm rfl)
      rw [show H4278 0 ((i + 1).toNat) = H 0 ((i + 1).toNat) by omega]
      have h4353 : RB T H4278 m e8 d8 := (RB_fr hW gm f4283 rfl hrb8)
      have h4354 : KNN T H4278 m e8 d8 := (KNN_fr hW gm f4283 rfl hknn8)
      refine wl_of hX hb cL_1103 (xc_V (pc' := 1106) (r := m) (as := [vI (H 0 ((i + 1).toNat)), vI 1]) (st := []) (lm_11_142) rfl rfl (Nat.le_of_ble_eq_true rfl) w4282 gm sh_42 (by decide) rfl (by decide) (u_263 (e := e8) (d := d8) w4282 gm ⟨by omega, by omega⟩ ⟨by decide, by decide⟩ (by omega) (by assumption) (by assumption) (by assumption) (by assumption) h4353 h4354) (fun R4355 T4356 H4357 p4358 => ?_))
      obtain ⟨e4359, w4361, f4362, z4363, e4360, b4364, p4365⟩ := p4358
      subst e4359
      subst e4360
      obtain ⟨a4366, a4367⟩ := p4365
      show WL _ _ _ _ 1106 [(4, vI i), (3, .ref o), (2, .ref m), (1, .ref x), (0, .ref 0)] [vI z4363] _ H4357
      refine wl_of hX hb cL_1106 (rw_pop (pc' := 1107) rfl rfl ?_)
      refine wl_of hX hb cL_1107 (rw_goto (p1 := 1654) (by decide) ?_)
      have k4368 : H4357 x 9 = H4278 x 9 := (f4362 x 9 _ gx rfl)
      have k4369 : H4357 m 6 = H4278 m 6 := (f4362 m 6 _ gm rfl)
      have k4370 : H4357 x 11 = H4278 x 11 := (f4362 x 11 _ gx rfl)
      have k4371 : H4357 m 13 = H4278 m 13 := (f4362 m 13 _ gm rfl)
      have k4372 : H4357 x 8 = H4278 x 8 := (f4362 x 8 _ gx rfl)
      have k4373 : H4357 m 3 = H4278 m 3 := (f4362 m 3 _ gm rfl)
      have k4374 : H4357 x 0 = H x 0 := ((f4362 x 0 _ gx rfl).trans (f4283 x 0 _ gx rfl))
      have q4375 : H4357 x 0 = (tc : Int) := k4374.trans e0
      have k4376 : H4357 m 5 = H m 5 := ((f4362 m 5 _ gm rfl).trans (f4283 m 5 _ gm rfl))
      have q4377 : H4357 m 5 = (tm : Int) := k4376.trans em
      have k4378 : H4357 x 6 = H x 6 := ((f4362 x 6 _ gx rfl).trans (f4283 x 6 _ gx rfl))
      have q4379 : H4357 x 6 = (cu : Int) := k4378.trans ecu
      have k4380 : H4357 x 7 = H x 7 := ((f4362 x 7 _ gx rfl).trans (f4283 x 7 _ gx rfl))
      have q4381 : H4357 x 7 = (dr : Int) := k4380.trans edr
      have h4382 : CEN T H4357 ce8 e8 d8 := (CEN_fr w4282 gce8 f4362 rfl p4286)
      have h4383 : TP T H4357 tc B := (TP_fr w4282 gtc f4362 rfl (TP_fr hW gtc f4283 rfl htc))
      have h4384 : TM T H4357 tm B := (TM_fr w4282 gtm f4362 rfl (TM_fr hW gtm f4283 rfl htm))
      have h4385 : DD T H4357 cu  := (DD_fr w4282 gcu f4362 rfl (DD_fr hW gcu f4283 rfl hcu))
      have h4386 : DD T H4357 dr  := (DD_fr w4282 gdr f4362 rfl (DD_fr hW gdr f4283 rfl hdr))
      have h4387 : DE T H4357 cu  := (DE_fr w4282 gcu f4362 rfl (DE_fr hW gcu f4283 rfl hdec))
      have h4388 : DE T H4357 dr  := (DE_fr w4282 gdr f4362 rfl (DE_fr hW gdr f4283 rfl hded))
      have h4389 : SP T H4357 x C8 := (SP_fr w4282 gx f4362 rfl (SP_fr hW gx f4283 rfl hsp))
      have h4390 : CU T H4357 cu e8 d8 n8 := (CU_fr w4282 gcu f4362 rfl (CU_fr hW gcu f4283 rfl hcu8))
      have h4391 : CY T H4357 cu (d8 0 3) g8 (H cu 17) := (CY_fr w4282 gcu f4362 rfl (CY_fr hW gcu f4283 rfl h4271))
      have k4392 : H4357 x 3 = H x 3 := ((f4362 x 3 _ gx rfl).trans (f4283 x 3 _ gx rfl))
      have q4393 : H4357 x 3 = (ce8 : Int) := k4392.trans ece8
      have h4394 : HDR T H4357 ce8  := (HDR_fr w4282 gce8 f4362 rfl (HDR_fr hW gce8 f4283 rfl hhdr8))
      have h4395 : RY T H4357 m (d8 0 3) g8 (H m 32) := (RY_fr w4282 gm f4362 rfl (RY_fr hW gm f4283 rfl h4272))
      have h4396 : RB T H4357 m e8 d8 := (RB_fr w4282 gm f4362 rfl h4353)
      exact WL.loc hX (by simp) (next T H4357 ⟨⟨w4361, g0, gx, gm, go, by omega, by omega⟩, ⟨_, tc, tm, cu, dr, _, _, _, _, _, ce8, q4375, gtc, h4383, q4377, gtm, h4384, q4379, gcu, q4381, gdr, h4385, h4386, h4387, h4388, h4389, hC1, hC2, h4390, h4396, (h4391).1, (h4395).1, hE, hZ, (by omega), (by assumption), (by omega), (by first | assumption | exact SG_0), q4393, gce8, h4382, h4394, a4367, gm⟩, by omega, by omega⟩ (by omega) (by omega))
