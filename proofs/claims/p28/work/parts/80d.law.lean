/-! THE LAW, GONE ON WITH (own work) -/
set_option maxHeartbeats 4000000 in
theorem wl_c22 {kt : Nat → Option mc_E} {CB SB : Nat} {X : mc_S → Prop} {T : wq_T} {H : wq_H} {Len x m o : Nat} {i : Int} (hX : wlX kt CB SB X) (hb : T.2.1 ≤ CB ∧ T.2.2.1 ≤ SB) (hI : wlJ Len x m o T H) (hL : Len ≤ 3072) (hi : 0 ≤ i ∧ i + 6 ≤ Len) (hb2 : T.2.1 + 20 ≤ CB ∧ T.2.2.1 + 500 ≤ SB)  (next : ∀ T' H', wlJ Len x m o T' H' → T'.2.1 ≤ T.2.1 + 20 → T'.2.2.1 ≤ T.2.2.1 + 500 → WL kt CB SB X 1654 (wlL i x m o) [] T' H') : WL kt CB SB X 882 (wlL i x m o) [] T H := by
  obtain ⟨⟨hW, g0, gx, gm, go, hK, hr⟩, hXI, hY1, hY2⟩ := hI
  refine wl_of hX hb cL_882 (rw_aload_n (pc' := 883) (v := .ref x) rfl rfl rfl ?_)
  refine wl_of hX hb cL_883 (rw_aload_n (pc' := 884) (v := .ref 0) rfl rfl rfl ?_)
  refine wl_of hX hb cL_884 (rw_iload (pc' := 886) (z := i) rfl rfl ?_)
  refine wl_of hX hb cL_886 (rw_iconst (pc' := 887) rfl ?_)
  refine wl_of hX hb cL_887 (rw_iadd (pc' := 888) rfl ?_)
  refine wl_of hX hb cL_888 (xa_I (so := 0) (pc' := 889) (a := 0) hW g0 (wsh_s _) (by omega) (wty_s _ _) (by omega) (by omega) rfl (fun b3601 b3602 => ?_))
  refine wl_of hX hb cL_889 (rw_aload_n (pc' := 890) (v := .ref 0) rfl rfl rfl ?_)
  refine wl_of hX hb cL_890 (rw_iload (pc' := 892) (z := i) rfl rfl ?_)
  refine wl_of hX hb cL_892 (rw_iconst (pc' := 893) rfl ?_)
  refine wl_of hX hb cL_893 (rw_iadd (pc' := 894) rfl ?_)
  refine wl_of hX hb cL_894 (xa_I (so := 0) (pc' := 895) (a := 0) hW g0 (wsh_s _) (by omega) (wty_s _ _) (by omega) (by omega) rfl (fun b3603 b3604 => ?_))
  obtain ⟨B, tc, tm, cu, dr, C8, e8, d8, n8, g8, ce8, e0, gtc, htc, em, gtm, htm, ecu, gcu, edr, gdr, hcu, hdr, hdec, hded, hsp, hC1, hC2, hcu8, hrb8, hcg8, hmn8, hE, hZ, hn8, hXA, hV8, hSG, ece8, gce8, hcen8, hhdr8, hknn8, -⟩ := hXI
  have hN3 := RB_n3 hrb8
  have hE13 : ∀ h : Nat, h < 24 → 0 ≤ e8 13 h ∧ e8 13 h ≤ 100 := fun k hk => by
    obtain ⟨s, h1, h2, h3⟩ := hcu8.1.2.2.1
    exact ⟨(h3 k hk).1, (h3 k hk).2.1⟩
  have hXW := hXA.1
  have hXN := hXA.2
  have hE0 : e8 0 3 = d8 0 3 ∧ e8 0 0 = d8 0 0 := by
    have h := hE 0 (by decide)
    exact ⟨congrFun h 3, congrFun h 0⟩
  have u3605 := CU_k hcu8
  have h3606 : CY T H cu (d8 0 3) g8 (H cu 17) := ⟨hcg8, rfl⟩
  have h3607 : RY T H m (d8 0 3) g8 (H m 32) := ⟨hmn8, rfl⟩
  obtain ⟨t9, ht9⟩ : ∃ t : Int, t = H x 9 := ⟨_, rfl⟩
  obtain ⟨y9, hy9⟩ : ∃ y : Int, y = H 0 ((i + 2).toNat) := ⟨_, rfl⟩
  obtain ⟨r3608, q3609, g3610⟩ := hW.ref gx (t' := 6) (n := 13) (j := 2) (p := 0) (q := 0) rfl (by decide) rfl
  refine wl_of hX hb cL_895 (xc_V (pc' := 898) (r := x) (as := [vI (H 0 ((i + 1).toNat)), vI (H 0 ((i + 2).toNat))]) (st := []) (lm_11_114) rfl rfl (Nat.le_of_ble_eq_true rfl) hW gx sh_1 (by decide) rfl (by decide) (u_105 (e := e8) (d := d8) (n := n8) hW gx ⟨by omega, by omega⟩ ⟨by omega, by omega⟩ ecu gcu q3609 g3610 ece8 gce8 (by assumption) (by assumption) (by omega) (by omega) (by omega) (by omega) hcu8 hcen8 hhdr8) (fun R3611 T3612 H3613 p3614 => ?_))
  obtain ⟨e3615, w3617, f3618, z3619, e3616, b3620, p3621⟩ := p3614
  subst e3615
  subst e3616
  show WL _ _ _ _ 898 [(4, vI i), (3, .ref o), (2, .ref m), (1, .ref x), (0, .ref 0)] [vI z3619] _ H3613
  refine wl_of hX hb cL_898 (rw_pop (pc' := 899) rfl rfl ?_)
  refine wl_of hX hb cL_899 (rw_aload_n (pc' := 900) (v := .ref m) rfl rfl rfl ?_)
  refine wl_of hX hb cL_900 (rw_aload_n (pc' := 901) (v := .ref 0) rfl rfl rfl ?_)
  refine wl_of hX hb cL_901 (rw_iload (pc' := 903) (z := i) rfl rfl ?_)
  refine wl_of hX hb cL_903 (rw_iconst (pc' := 904) rfl ?_)
  refine wl_of hX hb cL_904 (rw_iadd (pc' := 905) rfl ?_)
  have k3625 : H3613 0 ((i + 1).toNat) = H 0 ((i + 1).toNat) := (f3618 0 ((i + 1).toNat) _ g0 (wmem_s rfl))
  refine wl_of hX hb cL_905 (xa_I (so := 0) (pc' := 906) (a := 0) w3617 g0 (wsh_s _) (by omega) (wty_s _ _) (by omega) (by omega) rfl (fun b3623 b3624 => ?_))
  refine wl_of hX hb cL_906 (rw_aload_n (pc' := 907) (v := .ref 0) rfl rfl rfl ?_)
  refine wl_of hX hb cL_907 (rw_iload (pc' := 909) (z := i) rfl rfl ?_)
  refine wl_of hX hb cL_909 (rw_iconst (pc' := 910) rfl ?_)
  refine wl_of hX hb cL_910 (rw_iadd (pc' := 911) rfl ?_)
  have k3628 : H3613 0 ((i + 2).toNat) = H 0 ((i + 2).toNat) := (f3618 0 ((i + 2).toNat) _ g0 (wmem_s rfl))
  refine wl_of hX hb cL_911 (xa_I (so := 0) (pc' := 912) (a := 0) w3617 g0 (wsh_s _) (by omega) (wty_s _ _) (by omega) (by omega) rfl (fun b3626 b3627 => ?_))
  have k3629 : wKI H3613 m = wKI H m := (wKI_fr hW gm f3618 rfl)
  have k3630 : H3613 x 9 = H x 9 := (f3618 x 9 _ gx rfl)
  have k3631 : H3613 m 6 = H m 6 := (f3618 m 6 _ gm rfl)
  have k3632 : H3613 x 11 = H x 11 := (f3618 x 11 _ gx rfl)
  have k3633 : H3613 m 13 = H m 13 := (f3618 m 13 _ gm rfl)
  have k3634 : H3613 x 8 = H x 8 := (f3618 x 8 _ gx rfl)
  have k3635 : H3613 m 3 = H m 3 := (f3618 m 3 _ gm rfl)
  rw [show H3613 0 ((i + 2).toNat) = H 0 ((i + 2).toNat) by omega]
  rw [show H3613 0 ((i + 1).toNat) = H 0 ((i + 1).toNat) by omega]
  have h3636 : RB T H3613 m e8 d8 := (RB_fr hW gm f3618 rfl hrb8)
  have h3637 : KNN T H3613 m e8 d8 := (KNN_fr hW gm f3618 rfl hknn8)
  refine wl_of hX hb cL_912 (xc_V (pc' := 915) (r := m) (as := [vI (H 0 ((i + 1).toNat)), vI (H 0 ((i + 2).toNat))]) (st := []) (lm_11_117) rfl rfl (Nat.le_of_ble_eq_true rfl) w3617 gm sh_42 (by decide) rfl (by decide) (u_255 (e := e8) (d := d8) w3617 gm ⟨by omega, by omega⟩ ⟨by omega, by omega⟩ (by omega) (by assumption) (by assumption) (by assumption) (by assumption) h3636 h3637) (fun R3638 T3639 H3640 p3641 => ?_))
  obtain ⟨e3642, w3644, f3645, z3646, e3643, b3647, p3648⟩ := p3641
  subst e3642
  subst e3643
  obtain ⟨a3649, a3650⟩ := p3648
  show WL _ _ _ _ 915 [(4, vI i), (3, .ref o), (2, .ref m), (1, .ref x), (0, .ref 0)] [vI z3646] _ H3640
  refine wl_of hX hb cL_915 (rw_pop (pc' := 916) rfl rfl ?_)
  refine wl_of hX hb cL_916 (rw_goto (p1 := 1654) (by decide) ?_)
  have k3651 : H3640 x 9 = H3613 x 9 := (f3645 x 9 _ gx rfl)
  have k3652 : H3640 m 6 = H3613 m 6 := (f3645 m 6 _ gm rfl)
  have k3653 : H3640 x 11 = H3613 x 11 := (f3645 x 11 _ gx rfl)
  have k3654 : H3640 m 13 = H3613 m 13 := (f3645 m 13 _ gm rfl)
  have k3655 : H3640 x 8 = H3613 x 8 := (f3645 x 8 _ gx rfl)
  have k3656 : H3640 m 3 = H3613 m 3 := (f3645 m 3 _ gm rfl)
  have k3657 : H3640 x 0 = H x 0 := ((f3645 x 0 _ gx rfl).trans (f3618 x 0 _ gx rfl))
  have q3658 : H3640 x 0 = (tc : Int) := k3657.trans e0
  have k3659 : H3640 m 5 = H m 5 := ((f3645 m 5 _ gm rfl).trans (f3618 m 5 _ gm rfl))
  have q3660 : H3640 m 5 = (tm : Int) := k3659.trans em
  have k3661 : H3640 x 6 = H x 6 := ((f3645 x 6 _ gx rfl).trans (f3618 x 6 _ gx rfl))
  have q3662 : H3640 x 6 = (cu : Int) := k3661.trans ecu
  have k3663 : H3640 x 7 = H x 7 := ((f3645 x 7 _ gx rfl).trans (f3618 x 7 _ gx rfl))
  have q3664 : H3640 x 7 = (dr : Int) := k3663.trans edr
  have h3665 : CEN T H3640 ce8 e8 d8 := (CEN_fr w3617 gce8 f3645 rfl p3621)
  have h3666 : TP T H3640 tc B := (TP_fr w3617 gtc f3645 rfl (TP_fr hW gtc f3618 rfl htc))
  have h3667 : TM T H3640 tm B := (TM_fr w3617 gtm f3645 rfl (TM_fr hW gtm f3618 rfl htm))
  have h3668 : DD T H3640 cu  := (DD_fr w3617 gcu f3645 rfl (DD_fr hW gcu f3618 rfl hcu))
  have h3669 : DD T H3640 dr  := (DD_fr w3617 gdr f3645 rfl (DD_fr hW gdr f3618 rfl hdr))
  have h3670 : DE T H3640 cu  := (DE_fr w3617 gcu f3645 rfl (DE_fr hW gcu f3618 rfl hdec))
  have h3671 : DE T H3640 dr  := (DE_fr w3617 gdr f3645 rfl (DE_fr hW gdr f3618 rfl hded))
  have h3672 : SP T H3640 x C8 := (SP_fr w3617 gx f3645 rfl (SP_fr hW gx f3618 rfl hsp))
  have h3673 : CU T H3640 cu e8 d8 n8 := (CU_fr w3617 gcu f3645 rfl (CU_fr hW gcu f3618 rfl hcu8))
  have h3674 : CY T H3640 cu (d8 0 3) g8 (H cu 17) := (CY_fr w3617 gcu f3645 rfl (CY_fr hW gcu f3618 rfl h3606))
  have k3675 : H3640 x 3 = H x 3 := ((f3645 x 3 _ gx rfl).trans (f3618 x 3 _ gx rfl))
  have q3676 : H3640 x 3 = (ce8 : Int) := k3675.trans ece8
  have h3677 : HDR T H3640 ce8  := (HDR_fr w3617 gce8 f3645 rfl (HDR_fr hW gce8 f3618 rfl hhdr8))
  have h3678 : RY T H3640 m (d8 0 3) g8 (H m 32) := (RY_fr w3617 gm f3645 rfl (RY_fr hW gm f3618 rfl h3607))
  have h3679 : RB T H3640 m e8 d8 := (RB_fr w3617 gm f3645 rfl h3636)
  exact WL.loc hX (by simp) (next T H3640 ⟨⟨w3644, g0, gx, gm, go, by omega, by omega⟩, ⟨_, tc, tm, cu, dr, _, _, _, _, _, ce8, q3658, gtc, h3666, q3660, gtm, h3667, q3662, gcu, q3664, gdr, h3668, h3669, h3670, h3671, h3672, hC1, hC2, h3673, h3679, (h3674).1, (h3678).1, hE, hZ, (by omega), (by assumption), (by omega), (by first | assumption | exact SG_0), q3676, gce8, h3665, h3677, a3650, gm⟩, by omega, by omega⟩ (by omega) (by omega))
set_option maxHeartbeats 4000000 in
theorem wl_c23 {kt : Nat → Option mc_E} {CB SB : Nat} {X : mc_S → Prop} {T : wq_T} {H : wq_H} {Len x m o : Nat} {i : Int} (hX : wlX kt CB SB X) (hb : T.2.1 ≤ CB ∧ T.2.2.1 ≤ SB) (hI : wlJ Len x m o T H) (hL : Len ≤ 3072) (hi : 0 ≤ i ∧ i + 6 ≤ Len) (hb2 : T.2.1 + 20 ≤ CB ∧ T.2.2.1 + 500 ≤ SB)  (next : ∀ T' H', wlJ Len x m o T' H' → T'.2.1 ≤ T.2.1 + 20 → T'.2.2.1 ≤ T.2.2.1 + 500 → WL kt CB SB X 1654 (wlL i x m o) [] T' H') : WL kt CB SB X 919 (wlL i x m o) [] T H := by
  obtain ⟨⟨hW, g0, gx, gm, go, hK, hr⟩, hXI, hY1, hY2⟩ := hI
  refine wl_of hX hb cL_919 (rw_aload_n (pc' := 920) (v := .ref x) rfl rfl rfl ?_)
  refine wl_of hX hb cL_920 (rw_aload_n (pc' := 921) (v := .ref 0) rfl rfl rfl ?_)
  refine wl_of hX hb cL_921 (rw_iload (pc' := 923) (z := i) rfl rfl ?_)
  refine wl_of hX hb cL_923 (rw_iconst (pc' := 924) rfl ?_)
  refine wl_of hX hb cL_924 (rw_iadd (pc' := 925) rfl ?_)
  refine wl_of hX hb cL_925 (xa_I (so := 0) (pc' := 926) (a := 0) hW g0 (wsh_s _) (by omega) (wty_s _ _) (by omega) (by omega) rfl (fun b3680 b3681 => ?_))
  obtain ⟨B, tc, tm, cu, dr, C8, e8, d8, n8, g8, ce8, e0, gtc, htc, em, gtm, htm, ecu, gcu, edr, gdr, hcu, hdr, hdec, hded, hsp, hC1, hC2, hcu8, hrb8, hcg8, hmn8, hE, hZ, hn8, hXA, hV8, hSG, ece8, gce8, hcen8, hhdr8, hknn8, -⟩ := hXI
  have hN3 := RB_n3 hrb8
  have hE13 : ∀ h : Nat, h < 24 → 0 ≤ e8 13 h ∧ e8 13 h ≤ 100 := fun k hk => by
    obtain ⟨s, h1, h2, h3⟩ := hcu8.1.2.2.1
    exact ⟨(h3 k hk).1, (h3 k hk).2.1⟩
  have hXW := hXA.1
  have hXN := hXA.2
  have hE0 : e8 0 3 = d8 0 3 ∧ e8 0 0 = d8 0 0 := by
    have h := hE 0 (by decide)
    exact ⟨congrFun h 3, congrFun h 0⟩
  have u3682 := CU_k hcu8
  have h3683 : CY T H cu (d8 0 3) g8 (H cu 17) := ⟨hcg8, rfl⟩
  have h3684 : RY T H m (d8 0 3) g8 (H m 32) := ⟨hmn8, rfl⟩
  obtain ⟨t9, ht9⟩ : ∃ t : Int, t = H x 9 := ⟨_, rfl⟩
  obtain ⟨y9, hy9⟩ : ∃ y : Int, y = H 0 ((i + 1).toNat) := ⟨_, rfl⟩
  obtain ⟨r3685, q3686, g3687⟩ := hW.ref gx (t' := 6) (n := 13) (j := 2) (p := 0) (q := 0) rfl (by decide) rfl
  refine wl_of hX hb cL_926 (xc_V (pc' := 929) (r := x) (as := [vI (H 0 ((i + 1).toNat))]) (st := []) (lm_11_118) rfl rfl (Nat.le_of_ble_eq_true rfl) hW gx sh_1 (by decide) rfl (by decide) (u_107 (e := e8) (d := d8) (n := n8) hW gx ⟨by omega, by omega⟩ ecu gcu q3686 g3687 ece8 gce8 (by assumption) (by assumption) (by omega) (by omega) (by omega) (by omega) hcu8 hcen8 hhdr8) (fun R3688 T3689 H3690 p3691 => ?_))
  obtain ⟨e3692, w3694, f3695, z3696, e3693, b3697, p3698⟩ := p3691
  subst e3692
  subst e3693
  show WL _ _ _ _ 929 [(4, vI i), (3, .ref o), (2, .ref m), (1, .ref x), (0, .ref 0)] [vI z3696] _ H3690
  refine wl_of hX hb cL_929 (rw_pop (pc' := 930) rfl rfl ?_)
  refine wl_of hX hb cL_930 (rw_aload_n (pc' := 931) (v := .ref m) rfl rfl rfl ?_)
  refine wl_of hX hb cL_931 (rw_aload_n (pc' := 932) (v := .ref 0) rfl rfl rfl ?_)
  refine wl_of hX hb cL_932 (rw_iload (pc' := 934) (z := i) rfl rfl ?_)
  refine wl_of hX hb cL_934 (rw_iconst (pc' := 935) rfl ?_)
  refine wl_of hX hb cL_935 (rw_iadd (pc' := 936) rfl ?_)
  have k3702 : H3690 0 ((i + 1).toNat) = H 0 ((i + 1).toNat) := (f3695 0 ((i + 1).toNat) _ g0 (wmem_s rfl))
  refine wl_of hX hb cL_936 (xa_I (so := 0) (pc' := 937) (a := 0) w3694 g0 (wsh_s _) (by omega) (wty_s _ _) (by omega) (by omega) rfl (fun b3700 b3701 => ?_))
  have k3703 : wKI H3690 m = wKI H m := (wKI_fr hW gm f3695 rfl)
  have k3704 : H3690 x 9 = H x 9 := (f3695 x 9 _ gx rfl)
  have k3705 : H3690 m 6 = H m 6 := (f3695 m 6 _ gm rfl)
  have k3706 : H3690 x 11 = H x 11 := (f3695 x 11 _ gx rfl)
  have k3707 : H3690 m 13 = H m 13 := (f3695 m 13 _ gm rfl)
  have k3708 : H3690 x 8 = H x 8 := (f3695 x 8 _ gx rfl)
  have k3709 : H3690 m 3 = H m 3 := (f3695 m 3 _ gm rfl)
  rw [show H3690 0 ((i + 1).toNat) = H 0 ((i + 1).toNat) by omega]
  have h3710 : RB T H3690 m e8 d8 := (RB_fr hW gm f3695 rfl hrb8)
  have h3711 : KNN T H3690 m e8 d8 := (KNN_fr hW gm f3695 rfl hknn8)
  refine wl_of hX hb cL_937 (xc_V (pc' := 940) (r := m) (as := [vI (H 0 ((i + 1).toNat))]) (st := []) (lm_11_121) rfl rfl (Nat.le_of_ble_eq_true rfl) w3694 gm sh_42 (by decide) rfl (by decide) (u_256 (e := e8) (d := d8) w3694 gm ⟨by omega, by omega⟩ (by omega) (by assumption) (by assumption) (by assumption) (by assumption) h3710 h3711) (fun R3712 T3713 H3714 p3715 => ?_))
  obtain ⟨e3716, w3718, f3719, z3720, e3717, b3721, p3722⟩ := p3715
  subst e3716
  subst e3717
  obtain ⟨a3723, a3724⟩ := p3722
  show WL _ _ _ _ 940 [(4, vI i), (3, .ref o), (2, .ref m), (1, .ref x), (0, .ref 0)] [vI z3720] _ H3714
  refine wl_of hX hb cL_940 (rw_pop (pc' := 941) rfl rfl ?_)
  refine wl_of hX hb cL_941 (rw_goto (p1 := 1654) (by decide) ?_)
  have k3725 : H3714 x 9 = H3690 x 9 := (f3719 x 9 _ gx rfl)
  have k3726 : H3714 m 6 = H3690 m 6 := (f3719 m 6 _ gm rfl)
  have k3727 : H3714 x 11 = H3690 x 11 := (f3719 x 11 _ gx rfl)
  have k3728 : H3714 m 13 = H3690 m 13 := (f3719 m 13 _ gm rfl)
  have k3729 : H3714 x 8 = H3690 x 8 := (f3719 x 8 _ gx rfl)
  have k3730 : H3714 m 3 = H3690 m 3 := (f3719 m 3 _ gm rfl)
  have k3731 : H3714 x 0 = H x 0 := ((f3719 x 0 _ gx rfl).trans (f3695 x 0 _ gx rfl))
  have q3732 : H3714 x 0 = (tc : Int) := k3731.trans e0
  have k3733 : H3714 m 5 = H m 5 := ((f3719 m 5 _ gm rfl).trans (f3695 m 5 _ gm rfl))
  have q3734 : H3714 m 5 = (tm : Int) := k3733.trans em
  have k3735 : H3714 x 6 = H x 6 := ((f3719 x 6 _ gx rfl).trans (f3695 x 6 _ gx rfl))
  have q3736 : H3714 x 6 = (cu : Int) := k3735.trans ecu
  have k3737 : H3714 x 7 = H x 7 := ((f3719 x 7 _ gx rfl).trans (f3695 x 7 _ gx rfl))
  have q3738 : H3714 x 7 = (dr : Int) := k3737.trans edr
  have h3739 : CEN T H3714 ce8 e8 d8 := (CEN_fr w3694 gce8 f3719 rfl p3698)
  have h3740 : TP T H3714 tc B := (TP_fr w3694 gtc f3719 rfl (TP_fr hW gtc f3695 rfl htc))
  have h3741 : TM T H3714 tm B := (TM_fr w3694 gtm f3719 rfl (TM_fr hW gtm f3695 rfl htm))
  have h3742 : DD T H3714 cu  := (DD_fr w3694 gcu f3719 rfl (DD_fr hW gcu f3695 rfl hcu))
  have h3743 : DD T H3714 dr  := (DD_fr w3694 gdr f3719 rfl (DD_fr hW gdr f3695 rfl hdr))
  have h3744 : DE T H3714 cu  := (DE_fr w3694 gcu f3719 rfl (DE_fr hW gcu f3695 rfl hdec))
  have h3745 : DE T H3714 dr  := (DE_fr w3694 gdr f3719 rfl (DE_fr hW gdr f3695 rfl hded))
  have h3746 : SP T H3714 x C8 := (SP_fr w3694 gx f3719 rfl (SP_fr hW gx f3695 rfl hsp))
  have h3747 : CU T H3714 cu e8 d8 n8 := (CU_fr w3694 gcu f3719 rfl (CU_fr hW gcu f3695 rfl hcu8))
  have h3748 : CY T H3714 cu (d8 0 3) g8 (H cu 17) := (CY_fr w3694 gcu f3719 rfl (CY_fr hW gcu f3695 rfl h3683))
  have k3749 : H3714 x 3 = H x 3 := ((f3719 x 3 _ gx rfl).trans (f3695 x 3 _ gx rfl))
  have q3750 : H3714 x 3 = (ce8 : Int) := k3749.trans ece8
  have h3751 : HDR T H3714 ce8  := (HDR_fr w3694 gce8 f3719 rfl (HDR_fr hW gce8 f3695 rfl hhdr8))
  have h3752 : RY T H3714 m (d8 0 3) g8 (H m 32) := (RY_fr w3694 gm f3719 rfl (RY_fr hW gm f3695 rfl h3684))
  have h3753 : RB T H3714 m e8 d8 := (RB_fr w3694 gm f3719 rfl h3710)
  exact WL.loc hX (by simp) (next T H3714 ⟨⟨w3718, g0, gx, gm, go, by omega, by omega⟩, ⟨_, tc, tm, cu, dr, _, _, _, _, _, ce8, q3732, gtc, h3740, q3734, gtm, h3741, q3736, gcu, q3738, gdr, h3742, h3743, h3744, h3745, h3746, hC1, hC2, h3747, h3753, (h3748).1, (h3752).1, hE, hZ, (by omega), (by assumption), (by omega), (by first | assumption | exact SG_0), q3750, gce8, h3739, h3751, a3724, gm⟩, by omega, by omega⟩ (by omega) (by omega))
set_option maxHeartbeats 4000000 in
theorem wl_c24 {kt : Nat → Option mc_E} {CB SB : Nat} {X : mc_S → Prop} {T : wq_T} {H : wq_H} {Len x m o : Nat} {i : Int} (hX : wlX kt CB SB X) (hb : T.2.1 ≤ CB ∧ T.2.2.1 ≤ SB) (hI : wlJ Len x m o T H) (hL : Len ≤ 3072) (hi : 0 ≤ i ∧ i + 6 ≤ Len) (hb2 : T.2.1 + 20 ≤ CB ∧ T.2.2.1 + 500 ≤ SB)  (next : ∀ T' H', wlJ Len x m o T' H' → T'.2.1 ≤ T.2.1 + 20 → T'.2.2.1 ≤ T.2.2.1 + 500 → WL kt CB SB X 1654 (wlL i x m o) [] T' H') : WL kt CB SB X 944 (wlL i x m o) [] T H := by
  obtain ⟨⟨hW, g0, gx, gm, go, hK, hr⟩, hXI, hY1, hY2⟩ := hI
  refine wl_of hX hb cL_944 (rw_aload_n (pc' := 945) (v := .ref x) rfl rfl rfl ?_)
  obtain ⟨B, tc, tm, cu, dr, C8, e8, d8, n8, g8, ce8, e0, gtc, htc, em, gtm, htm, ecu, gcu, edr, gdr, hcu, hdr, hdec, hded, hsp, hC1, hC2, hcu8, hrb8, hcg8, hmn8, hE, hZ, hn8, hXA, hV8, hSG, ece8, gce8, hcen8, hhdr8, hknn8, -⟩ := hXI
  have hN3 := RB_n3 hrb8
  have hE13 : ∀ h : Nat, h < 24 → 0 ≤ e8 13 h ∧ e8 13 h ≤ 100 := fun k hk => by
    obtain ⟨s, h1, h2, h3⟩ := hcu8.1.2.2.1
    exact ⟨(h3 k hk).1, (h3 k hk).2.1⟩
  have hXW := hXA.1
  have hXN := hXA.2
  have hE0 : e8 0 3 = d8 0 3 ∧ e8 0 0 = d8 0 0 := by
    have h := hE 0 (by decide)
    exact ⟨congrFun h 3, congrFun h 0⟩
  have u3754 := CU_k hcu8
  have h3755 : CY T H cu (d8 0 3) g8 (H cu 17) := ⟨hcg8, rfl⟩
  have h3756 : RY T H m (d8 0 3) g8 (H m 32) := ⟨hmn8, rfl⟩
  obtain ⟨t9, ht9⟩ : ∃ t : Int, t = H x 9 := ⟨_, rfl⟩
  obtain ⟨r3757, q3758, g3759⟩ := hW.ref gx (t' := 6) (n := 13) (j := 2) (p := 0) (q := 0) rfl (by decide) rfl
  refine wl_of hX hb cL_945 (xc_V (pc' := 948) (r := x) (as := []) (st := []) (lm_11_122) rfl rfl (Nat.le_of_ble_eq_true rfl) hW gx sh_1 (by decide) rfl (by decide) (u_108 (e := e8) (d := d8) (n := n8) hW gx ecu gcu q3758 g3759 ece8 gce8 (by assumption) (by assumption) (by omega) (by omega) (by omega) (by omega) hcu8 hcen8 hhdr8) (fun R3760 T3761 H3762 p3763 => ?_))
  obtain ⟨e3764, w3766, f3767, z3768, e3765, b3769, p3770⟩ := p3763
  subst e3764
  subst e3765
  show WL _ _ _ _ 948 [(4, vI i), (3, .ref o), (2, .ref m), (1, .ref x), (0, .ref 0)] [vL z3768] _ H3762
  refine wl_of hX hb cL_948 (rw_pop2 (pc' := 949) rfl rfl ?_)
  refine wl_of hX hb cL_949 (rw_aload_n (pc' := 950) (v := .ref m) rfl rfl rfl ?_)
  have k3772 : wKI H3762 m = wKI H m := (wKI_fr hW gm f3767 rfl)
  have k3773 : H3762 x 9 = H x 9 := (f3767 x 9 _ gx rfl)
  have k3774 : H3762 m 6 = H m 6 := (f3767 m 6 _ gm rfl)
  have k3775 : H3762 x 11 = H x 11 := (f3767 x 11 _ gx rfl)
  have k3776 : H3762 m 13 = H m 13 := (f3767 m 13 _ gm rfl)
  have k3777 : H3762 x 8 = H x 8 := (f3767 x 8 _ gx rfl)
  have k3778 : H3762 m 3 = H m 3 := (f3767 m 3 _ gm rfl)
  have h3779 : RB T H3762 m e8 d8 := (RB_fr hW gm f3767 rfl hrb8)
  have h3780 : KNN T H3762 m e8 d8 := (KNN_fr hW gm f3767 rfl hknn8)
  refine wl_of hX hb cL_950 (xc_V (pc' := 953) (r := m) (as := []) (st := []) (lm_11_125) rfl rfl (Nat.le_of_ble_eq_true rfl) w3766 gm sh_42 (by decide) rfl (by decide) (u_258 (e := e8) (d := d8) w3766 gm (by omega) (by assumption) (by assumption) (by assumption) (by assumption) h3779 h3780) (fun R3781 T3782 H3783 p3784 => ?_))
  obtain ⟨e3785, w3787, f3788, z3789, e3786, b3790, p3791⟩ := p3784
  subst e3785
  subst e3786
  obtain ⟨a3792, a3793⟩ := p3791
  show WL _ _ _ _ 953 [(4, vI i), (3, .ref o), (2, .ref m), (1, .ref x), (0, .ref 0)] [vL z3789] _ H3783
  refine wl_of hX hb cL_953 (rw_pop2 (pc' := 954) rfl rfl ?_)
  refine wl_of hX hb cL_954 (rw_goto (p1 := 1654) (by decide) ?_)
  have k3794 : H3783 x 9 = H3762 x 9 := (f3788 x 9 _ gx rfl)
  have k3795 : H3783 m 6 = H3762 m 6 := (f3788 m 6 _ gm rfl)
  have k3796 : H3783 x 11 = H3762 x 11 := (f3788 x 11 _ gx rfl)
  have k3797 : H3783 m 13 = H3762 m 13 := (f3788 m 13 _ gm rfl)
  have k3798 : H3783 x 8 = H3762 x 8 := (f3788 x 8 _ gx rfl)
  have k3799 : H3783 m 3 = H3762 m 3 := (f3788 m 3 _ gm rfl)
  have k3800 : H3783 x 0 = H x 0 := ((f3788 x 0 _ gx rfl).trans (f3767 x 0 _ gx rfl))
  have q3801 : H3783 x 0 = (tc : Int) := k3800.trans e0
  have k3802 : H3783 m 5 = H m 5 := ((f3788 m 5 _ gm rfl).trans (f3767 m 5 _ gm rfl))
  have q3803 : H3783 m 5 = (tm : Int) := k3802.trans em
  have k3804 : H3783 x 6 = H x 6 := ((f3788 x 6 _ gx rfl).trans (f3767 x 6 _ gx rfl))
  have q3805 : H3783 x 6 = (cu : Int) := k3804.trans ecu
  have k3806 : H3783 x 7 = H x 7 := ((f3788 x 7 _ gx rfl).trans (f3767 x 7 _ gx rfl))
  have q3807 : H3783 x 7 = (dr : Int) := k3806.trans edr
  have h3808 : CEN T H3783 ce8 e8 d8 := (CEN_fr w3766 gce8 f3788 rfl p3770)
  have h3809 : TP T H3783 tc B := (TP_fr w3766 gtc f3788 rfl (TP_fr hW gtc f3767 rfl htc))
  have h3810 : TM T H3783 tm B := (TM_fr w3766 gtm f3788 rfl (TM_fr hW gtm f3767 rfl htm))
  have h3811 : DD T H3783 cu  := (DD_fr w3766 gcu f3788 rfl (DD_fr hW gcu f3767 rfl hcu))
  have h3812 : DD T H3783 dr  := (DD_fr w3766 gdr f3788 rfl (DD_fr hW gdr f3767 rfl hdr))
  have h3813 : DE T H3783 cu  := (DE_fr w3766 gcu f3788 rfl (DE_fr hW gcu f3767 rfl hdec))
  have h3814 : DE T H3783 dr  := (DE_fr w3766 gdr f3788 rfl (DE_fr hW gdr f3767 rfl hded))
  have h3815 : SP T H3783 x C8 := (SP_fr w3766 gx f3788 rfl (SP_fr hW gx f3767 rfl hsp))
  have h3816 : CU T H3783 cu e8 d8 n8 := (CU_fr w3766 gcu f3788 rfl (CU_fr hW gcu f3767 rfl hcu8))
  have h3817 : CY T H3783 cu (d8 0 3) g8 (H cu 17) := (CY_fr w3766 gcu f3788 rfl (CY_fr hW gcu f3767 rfl h3755))
  have k3818 : H3783 x 3 = H x 3 := ((f3788 x 3 _ gx rfl).trans (f3767 x 3 _ gx rfl))
  have q3819 : H3783 x 3 = (ce8 : Int) := k3818.trans ece8
  have h3820 : HDR T H3783 ce8  := (HDR_fr w3766 gce8 f3788 rfl (HDR_fr hW gce8 f3767 rfl hhdr8))
  have h3821 : RY T H3783 m (d8 0 3) g8 (H m 32) := (RY_fr w3766 gm f3788 rfl (RY_fr hW gm f3767 rfl h3756))
  have h3822 : RB T H3783 m e8 d8 := (RB_fr w3766 gm f3788 rfl h3779)
  exact WL.loc hX (by simp) (next T H3783 ⟨⟨w3787, g0, gx, gm, go, by omega, by omega⟩, ⟨_, tc, tm, cu, dr, _, _, _, _, _, ce8, q3801, gtc, h3809, q3803, gtm, h3810, q3805, gcu, q3807, gdr, h3811, h3812, h3813, h3814, h3815, hC1, hC2, h3816, h3822, (h3817).1, (h3821).1, hE, hZ, (by omega), (by assumption), (by omega), (by first | assumption | exact SG_0), q3819, gce8, h3808, h3820, a3793, gm⟩, by omega, by omega⟩ (by omega) (by omega))
set_option maxHeartbeats 4000000 in
theorem wl_c25 {kt : Nat → Option mc_E} {CB SB : Nat} {X : mc_S → Prop} {T : wq_T} {H : wq_H} {Len x m o : Nat} {i : Int} (hX : wlX kt CB SB X) (hb : T.2.1 ≤ CB ∧ T.2.2.1 ≤ SB) (hI : wlJ Len x m o T H) (hL : Len ≤ 3072) (hi : 0 ≤ i ∧ i + 6 ≤ Len) (hb2 : T.2.1 + 20 ≤ CB ∧ T.2.2.1 + 500 ≤ SB)  (next : ∀ T' H', wlJ Len x m o T' H' → T'.2.1 ≤ T.2.1 + 20 → T'.2.2.1 ≤ T.2.2.1 + 500 → WL kt CB SB X 1654 (wlL i x m o) [] T' H') : WL kt CB SB X 957 (wlL i x m o) [] T H := by
  obtain ⟨⟨hW, g0, gx, gm, go, hK, hr⟩, hXI, hY1, hY2⟩ := hI
  refine wl_of hX hb cL_957 (rw_aload_n (pc' := 958) (v := .ref x) rfl rfl rfl ?_)
  refine wl_of hX hb cL_958 (rw_aload_n (pc' := 959) (v := .ref 0) rfl rfl rfl ?_)
  refine wl_of hX hb cL_959 (rw_iload (pc' := 961) (z := i) rfl rfl ?_)
  refine wl_of hX hb cL_961 (rw_iconst (pc' := 962) rfl ?_)
  refine wl_of hX hb cL_962 (rw_iadd (pc' := 963) rfl ?_)
  refine wl_of hX hb cL_963 (xa_I (so := 0) (pc' := 964) (a := 0) hW g0 (wsh_s _) (by omega) (wty_s _ _) (by omega) (by omega) rfl (fun b3823 b3824 => ?_))
  refine wl_of hX hb cL_964 (rw_aload_n (pc' := 965) (v := .ref 0) rfl rfl rfl ?_)
  refine wl_of hX hb cL_965 (rw_iload (pc' := 967) (z := i) rfl rfl ?_)
  refine wl_of hX hb cL_967 (rw_iconst (pc' := 968) rfl ?_)
  refine wl_of hX hb cL_968 (rw_iadd (pc' := 969) rfl ?_)
  refine wl_of hX hb cL_969 (xa_I (so := 0) (pc' := 970) (a := 0) hW g0 (wsh_s _) (by omega) (wty_s _ _) (by omega) (by omega) rfl (fun b3825 b3826 => ?_))
  obtain ⟨B, tc, tm, cu, dr, C8, e8, d8, n8, g8, ce8, e0, gtc, htc, em, gtm, htm, ecu, gcu, edr, gdr, hcu, hdr, hdec, hded, hsp, hC1, hC2, hcu8, hrb8, hcg8, hmn8, hE, hZ, hn8, hXA, hV8, hSG, ece8, gce8, hcen8, hhdr8, hknn8, -⟩ := hXI
  have hN3 := RB_n3 hrb8
  have hE13 : ∀ h : Nat, h < 24 → 0 ≤ e8 13 h ∧ e8 13 h ≤ 100 := fun k hk => by
    obtain ⟨s, h1, h2, h3⟩ := hcu8.1.2.2.1
    exact ⟨(h3 k hk).1, (h3 k hk).2.1⟩
  have hXW := hXA.1
  have hXN := hXA.2
  have hE0 : e8 0 3 = d8 0 3 ∧ e8 0 0 = d8 0 0 := by
    have h := hE 0 (by decide)
    exact ⟨congrFun h 3, congrFun h 0⟩
  have u3827 := CU_k hcu8
  have h3828 : CY T H cu (d8 0 3) g8 (H cu 17) := ⟨hcg8, rfl⟩
  have h3829 : RY T H m (d8 0 3) g8 (H m 32) := ⟨hmn8, rfl⟩
  obtain ⟨t9, ht9⟩ : ∃ t : Int, t = H x 9 := ⟨_, rfl⟩
  obtain ⟨y9, hy9⟩ : ∃ y : Int, y = H 0 ((i + 2).toNat) := ⟨_, rfl⟩
  obtain ⟨r3830, q3831, g3832⟩ := hW.ref gx (t' := 6) (n := 13) (j := 2) (p := 0) (q := 0) rfl (by decide) rfl
  refine wl_of hX hb cL_970 (xc_V (pc' := 973) (r := x) (as := [vI (H 0 ((i + 1).toNat)), vI (H 0 ((i + 2).toNat))]) (st := []) (lm_11_126) rfl rfl (Nat.le_of_ble_eq_true rfl) hW gx sh_1 (by decide) rfl (by decide) (u_109 (e := e8) (d := d8) (n := n8) hW gx ⟨by omega, by omega⟩ ⟨by omega, by omega⟩ ecu gcu q3831 g3832 ece8 gce8 (by assumption) (by assumption) (by omega) (by omega) (by omega) (by omega) hcu8 hcen8 hhdr8) (fun R3833 T3834 H3835 p3836 => ?_))
  obtain ⟨e3837, w3839, f3840, z3841, e3838, b3842, p3843⟩ := p3836
  subst e3837
  subst e3838
  show WL _ _ _ _ 973 [(4, vI i), (3, .ref o), (2, .ref m), (1, .ref x), (0, .ref 0)] [vI z3841] _ H3835
  refine wl_of hX hb cL_973 (rw_pop (pc' := 974) rfl rfl ?_)
  refine wl_of hX hb cL_974 (rw_aload_n (pc' := 975) (v := .ref m) rfl rfl rfl ?_)
  refine wl_of hX hb cL_975 (rw_aload_n (pc' := 976) (v := .ref 0) rfl rfl rfl ?_)
  refine wl_of hX hb cL_976 (rw_iload (pc' := 978) (z := i) rfl rfl ?_)
  refine wl_of hX hb cL_978 (rw_iconst (pc' := 979) rfl ?_)
  refine wl_of hX hb cL_979 (rw_iadd (pc' := 980) rfl ?_)
  have k3847 : H3835 0 ((i + 1).toNat) = H 0 ((i + 1).toNat) := (f3840 0 ((i + 1).toNat) _ g0 (wmem_s rfl))
  refine wl_of hX hb cL_980 (xa_I (so := 0) (pc' := 981) (a := 0) w3839 g0 (wsh_s _) (by omega) (wty_s _ _) (by omega) (by omega) rfl (fun b3845 b3846 => ?_))
  refine wl_of hX hb cL_981 (rw_aload_n (pc' := 982) (v := .ref 0) rfl rfl rfl ?_)
  refine wl_of hX hb cL_982 (rw_iload (pc' := 984) (z := i) rfl rfl ?_)
  refine wl_of hX hb cL_984 (rw_iconst (pc' := 985) rfl ?_)
  refine wl_of hX hb cL_985 (rw_iadd (pc' := 986) rfl ?_)
  have k3850 : H3835 0 ((i + 2).toNat) = H 0 ((i + 2).toNat) := (f3840 0 ((i + 2).toNat) _ g0 (wmem_s rfl))
  refine wl_of hX hb cL_986 (xa_I (so := 0) (pc' := 987) (a := 0) w3839 g0 (wsh_s _) (by omega) (wty_s _ _) (by omega) (by omega) rfl (fun b3848 b3849 => ?_))
  have k3851 : wKI H3835 m = wKI H m := (wKI_fr hW gm f3840 rfl)
  have k3852 : H3835 x 9 = H x 9 := (f3840 x 9 _ gx rfl)
  have k3853 : H3835 m 6 = H m 6 := (f3840 m 6 _ gm rfl)
  have k3854 : H3835 x 11 = H x 11 := (f3840 x 11 _ gx rfl)
  have k3855 : H3835 m 13 = H m 13 := (f3840 m 13 _ gm rfl)
  have k3856 : H3835 x 8 = H x 8 := (f3840 x 8 _ gx rfl)
  have k3857 : H3835 m 3 = H m 3 := (f3840 m 3 _ gm rfl)
  rw [show H3835 0 ((i + 2).toNat) = H 0 ((i + 2).toNat) by omega]
  rw [show H3835 0 ((i + 1).toNat) = H 0 ((i + 1).toNat) by omega]
  have h3858 : RB T H3835 m e8 d8 := (RB_fr hW gm f3840 rfl hrb8)
  have h3859 : KNN T H3835 m e8 d8 := (KNN_fr hW gm f3840 rfl hknn8)
  refine wl_of hX hb cL_987 (xc_V (pc' := 990) (r := m) (as := [vI (H 0 ((i + 1).toNat)), vI (H 0 ((i + 2).toNat))]) (st := []) (lm_11_129) rfl rfl (Nat.le_of_ble_eq_true rfl) w3839 gm sh_42 (by decide) rfl (by decide) (u_259 (e := e8) (d := d8) w3839 gm ⟨by omega, by omega⟩ ⟨by omega, by omega⟩ (by omega) (by assumption) (by assumption) (by assumption) (by assumption) h3858 h3859) (fun R3860 T3861 H3862 p3863 => ?_))
  obtain ⟨e3864, w3866, f3867, z3868, e3865, b3869, p3870⟩ := p3863
  subst e3864
  subst e3865
  obtain ⟨a3871, a3872⟩ := p3870
  show WL _ _ _ _ 990 [(4, vI i), (3, .ref o), (2, .ref m), (1, .ref x), (0, .ref 0)] [vI z3868] _ H3862
  refine wl_of hX hb cL_990 (rw_pop (pc' := 991) rfl rfl ?_)
  refine wl_of hX hb cL_991 (rw_goto (p1 := 1654) (by decide) ?_)
  have k3873 : H3862 x 9 = H3835 x 9 := (f3867 x 9 _ gx rfl)
  have k3874 : H3862 m 6 = H3835 m 6 := (f3867 m 6 _ gm rfl)
  have k3875 : H3862 x 11 = H3835 x 11 := (f3867 x 11 _ gx rfl)
  have k3876 : H3862 m 13 = H3835 m 13 := (f3867 m 13 _ gm rfl)
  have k3877 : H3862 x 8 = H3835 x 8 := (f3867 x 8 _ gx rfl)
  have k3878 : H3862 m 3 = H3835 m 3 := (f3867 m 3 _ gm rfl)
  have k3879 : H3862 x 0 = H x 0 := ((f3867 x 0 _ gx rfl).trans (f3840 x 0 _ gx rfl))
  have q3880 : H3862 x 0 = (tc : Int) := k3879.trans e0
  have k3881 : H3862 m 5 = H m 5 := ((f3867 m 5 _ gm rfl).trans (f3840 m 5 _ gm rfl))
  have q3882 : H3862 m 5 = (tm : Int) := k3881.trans em
  have k3883 : H3862 x 6 = H x 6 := ((f3867 x 6 _ gx rfl).trans (f3840 x 6 _ gx rfl))
  have q3884 : H3862 x 6 = (cu : Int) := k3883.trans ecu
  have k3885 : H3862 x 7 = H x 7 := ((f3867 x 7 _ gx rfl).trans (f3840 x 7 _ gx rfl))
  have q3886 : H3862 x 7 = (dr : Int) := k3885.trans edr
  have h3887 : CEN T H3862 ce8 e8 d8 := (CEN_fr w3839 gce8 f3867 rfl p3843)
  have h3888 : TP T H3862 tc B := (TP_fr w3839 gtc f3867 rfl (TP_fr hW gtc f3840 rfl htc))
  have h3889 : TM T H3862 tm B := (TM_fr w3839 gtm f3867 rfl (TM_fr hW gtm f3840 rfl htm))
  have h3890 : DD T H3862 cu  := (DD_fr w3839 gcu f3867 rfl (DD_fr hW gcu f3840 rfl hcu))
  have h3891 : DD T H3862 dr  := (DD_fr w3839 gdr f3867 rfl (DD_fr hW gdr f3840 rfl hdr))
  have h3892 : DE T H3862 cu  := (DE_fr w3839 gcu f3867 rfl (DE_fr hW gcu f3840 rfl hdec))
  have h3893 : DE T H3862 dr  := (DE_fr w3839 gdr f3867 rfl (DE_fr hW gdr f3840 rfl hded))
  have h3894 : SP T H3862 x C8 := (SP_fr w3839 gx f3867 rfl (SP_fr hW gx f3840 rfl hsp))
  have h3895 : CU T H3862 cu e8 d8 n8 := (CU_fr w3839 gcu f3867 rfl (CU_fr hW gcu f3840 rfl hcu8))
  have h3896 : CY T H3862 cu (d8 0 3) g8 (H cu 17) := (CY_fr w3839 gcu f3867 rfl (CY_fr hW gcu f3840 rfl h3828))
  have k3897 : H3862 x 3 = H x 3 := ((f3867 x 3 _ gx rfl).trans (f3840 x 3 _ gx rfl))
  have q3898 : H3862 x 3 = (ce8 : Int) := k3897.trans ece8
  have h3899 : HDR T H3862 ce8  := (HDR_fr w3839 gce8 f3867 rfl (HDR_fr hW gce8 f3840 rfl hhdr8))
  have h3900 : RY T H3862 m (d8 0 3) g8 (H m 32) := (RY_fr w3839 gm f3867 rfl (RY_fr hW gm f3840 rfl h3829))
  have h3901 : RB T H3862 m e8 d8 := (RB_fr w3839 gm f3867 rfl h3858)
  exact WL.loc hX (by simp) (next T H3862 ⟨⟨w3866, g0, gx, gm, go, by omega, by omega⟩, ⟨_, tc, tm, cu, dr, _, _, _, _, _, ce8, q3880, gtc, h3888, q3882, gtm, h3889, q3884, gcu, q3886, gdr, h3890, h3891, h3892, h3893, h3894, hC1, hC2, h3895, h3901, (h3896).1, (h3900).1, hE, hZ, (by omega), (by assumption), (by omega), (by first | assumption | exact SG_0), q3898, gce8, h3887, h3899, a3872, gm⟩, by omega, by omega⟩ (by omega) (by omega))
set_option maxHeartbeats 4000000 in
theorem wl_c26 {kt : Nat → Option mc_E} {CB SB : Nat} {X : mc_S → Prop} {T : wq_T} {H : wq_H} {Len x m o : Nat} {i : Int} (hX : wlX kt CB SB X) (hb : T.2.1 ≤ CB ∧ T.2.2.1 ≤ SB) (hI : wlJ Len x m o T H) (hL : Len ≤ 3072) (hi : 0 ≤ i ∧ i + 6 ≤ Len) (hb2 : T.2.1 + 20 ≤ CB ∧ T.2.2.1 + 500 ≤ SB)  (next : ∀ T' H', wlJ Len x m o T' H' → T'.2.1 ≤ T.2.1 + 20 → T'.2.2.1 ≤ T.2.2.1 + 500 → WL kt CB SB X 1654 (wlL i x m o) [] T' H') : WL kt CB SB X 994 (wlL i x m o) [] T H := by
  obtain ⟨⟨hW, g0, gx, gm, go, hK, hr⟩, hXI, hY1, hY2⟩ := hI
  refine wl_of hX hb cL_994 (rw_aload_n (pc' := 995) (v := .ref x) rfl rfl rfl ?_)
  refine wl_of hX hb cL_995 (rw_aload_n (pc' := 996) (v := .ref 0) rfl rfl rfl ?_)
  refine wl_of hX hb cL_996 (rw_iload (pc' := 998) (z := i) rfl rfl ?_)
  refine wl_of hX hb cL_998 (rw_iconst (pc' := 999) rfl ?_)
  refine wl_of hX hb cL_999 (rw_iadd (pc' := 1000) rfl ?_)
  refine wl_of hX hb cL_1000 (xa_I (so := 0) (pc' := 1001) (a := 0) hW g0 (wsh_s _) (by omega) (wty_s _ _) (by omega) (by omega) rfl (fun b3902 b3903 => ?_))
  obtain ⟨B, tc, tm, cu, dr, C8, e8, d8, n8, g8, ce8, e0, gtc, htc, em, gtm, htm, ecu, gcu, edr, gdr, hcu, hdr, hdec, hded, hsp, hC1, hC2, hcu8, hrb8, hcg8, hmn8, hE, hZ, hn8, hXA, hV8, hSG, ece8, gce8, hcen8, hhdr8, hknn8, -⟩ := hXI
  have hN3 := RB_n3 hrb8
  have hE13 : ∀ h : Nat, h < 24 → 0 ≤ e8 13 h ∧ e8 13 h ≤ 100 := fun k hk => by
    obtain ⟨s, h1, h2, h3⟩ := hcu8.1.2.2.1
    exact ⟨(h3 k hk).1, (h3 k hk).2.1⟩
  have hXW := hXA.1
  have hXN := hXA.2
  have hE0 : e8 0 3 = d8 0 3 ∧ e8 0 0 = d8 0 0 := by
    have h := hE 0 (by decide)
    exact ⟨congrFun h 3, congrFun h 0⟩
  have u3904 := CU_k hcu8
  have h3905 : CY T H cu (d8 0 3) g8 (H cu 17) := ⟨hcg8, rfl⟩
  have h3906 : RY T H m (d8 0 3) g8 (H m 32) := ⟨hmn8, rfl⟩
  obtain ⟨t9, ht9⟩ : ∃ t : Int, t = H x 9 := ⟨_, rfl⟩
  obtain ⟨y9, hy9⟩ : ∃ y : Int, y = H 0 ((i + 1).toNat) := ⟨_, rfl⟩
  obtain ⟨r3907, q3908, g3909⟩ := hW.ref gx (t' := 6) (n := 13) (j := 2) (p := 0) (q := 0) rfl (by decide) rfl
  refine wl_of hX hb cL_1001 (xc_V (pc' := 1004) (r := x) (as := [vI (H 0 ((i + 1).toNat))]) (st := []) (lm_11_130) rfl rfl (Nat.le_of_ble_eq_true rfl) hW gx sh_1 (by decide) rfl (by decide) (u_112 (e := e8) (d := d8) (n := n8) hW gx ⟨by omega, by omega⟩ ecu gcu q3908 g3909 ece8 gce8 (by assumption) (by assumption) (by omega) (by omega) (by omega) (by omega) hcu8 hcen8 hhdr8) (fun R3910 T3911 H3912 p3913 => ?_))
  obtain ⟨e3914, w3916, f3917, z3918, e3915, b3919, p3920⟩ := p3913
  subst e3914
  subst e3915
  rcases p3920 with ⟨a3921, a3922, a3923⟩ | ⟨a3924, a3925, a3926⟩
  · show WL _ _ _ _ 1004 [(4, vI i), (3, .ref o), (2, .ref m), (1, .ref x), (0, .ref 0)] [vL z3918] _ H3912
    refine wl_of hX hb cL_1004 (rw_aload_n (pc' := 1005) (v := .ref m) rfl rfl rfl ?_)
    refine wl_of hX hb cL_1005 (rw_aload_n (pc' := 1006) (v := .ref 0) rfl rfl rfl ?_)
    refine wl_of hX hb cL_1006 (rw_iload (pc' := 1008) (z := i) rfl rfl ?_)
    refine wl_of hX hb cL_1008 (rw_iconst (pc' := 1009) rfl ?_)
    refine wl_of hX hb cL_1009 (rw_iadd (pc' := 1010) rfl ?_)
    have k3929 : H3912 0 ((i + 1).toNat) = H 0 ((i + 1).toNat) := (f3917 0 ((i + 1).toNat) _ g0 (wmem_s rfl))
    refine wl_of hX hb cL_1010 (xa_I (so := 0) (pc' := 1011) (a := 0) w3916 g0 (wsh_s _) (by omega) (wty_s _ _) (by omega) (by omega) rfl (fun b3927 b3928 => ?_))
    have k3930 : wKI H3912 m = wKI H m := (wKI_fr hW gm f3917 rfl)
    have k3931 : H3912 x 9 = H x 9 := (f3917 x 9 _ gx rfl)
    have k3932 : H3912 m 6 = H m 6 := (f3917 m 6 _ gm rfl)
    have k3933 : H3912 x 11 = H x 11 := (f3917 x 11 _ gx rfl)
    have k3934 : H3912 m 13 = H m 13 := (f3917 m 13 _ gm rfl)
    have k3935 : H3912 x 8 = H x 8 := (f3917 x 8 _ gx rfl)
    have k3936 : H3912 m 3 = H m 3 := (f3917 m 3 _ gm rfl)
    rw [show H3912 0 ((i + 1).toNat) = H 0 ((i + 1).toNat) by omega]
    have h3937 : RB T H3912 m e8 d8 := (RB_fr hW gm f3917 rfl hrb8)
    have h3938 : KNN T H3912 m e8 d8 := (KNN_fr hW gm f3917 rfl hknn8)
    refine wl_of hX hb cL_1011 (xc_V (pc' := 1014) (r := m) (as := [vI (H 0 ((i + 1).toNat))]) (st := [vL z3918]) (lm_11_134) rfl rfl (Nat.le_of_ble_eq_true rfl) w3916 gm sh_42 (by decide) rfl (by decide) (u_260 (e := e8) (d := d8) w3916 gm ⟨by omega, by omega⟩ (by omega) (by assumption) (by assumption) (by assumption) (by assumption) h3937 h3938) (fun R3939 T3940 H3941 p3942 => ?_))
    obtain ⟨e3943, w3945, f3946, z3947, e3944, b3948, p3949⟩ := p3942
    subst e3943
    subst e3944
    rcases p3949 with ⟨a3950, a3951, a3952, a3953⟩ | ⟨a3954, a3955, a3956, a3957⟩
    · show WL _ _ _ _ 1014 [(4, vI i), (3, .ref o), (2, .ref m), (1, .ref x), (0, .ref 0)] [vL z3947, vL z3918] _ H3941
      refine wl_of hX hb cL_1014 (rw_lcmp (pc' := 1015) rfl ⟨b3919.1, b3919.2⟩ ⟨b3948.1, b3948.2⟩ ?_)
      have b3958 := wq_cmp_b z3918 z3947
      refine wl_of hX hb cL_1015 (rw_if_eq (p1 := 1654) (p2 := 1018) (by decide) rfl ⟨by omega, by omega⟩ (fun c3959 => ?_) (fun c3959 => ?_))
      · have k3960 : H3941 x 9 = H3912 x 9 := (f3946 x 9 _ gx rfl)
        have k3961 : H3941 m 6 = H3912 m 6 := (f3946 m 6 _ gm rfl)
        have k3962 : H3941 x 11 = H3912 x 11 := (f3946 x 11 _ gx rfl)
        have k3963 : H3941 m 13 = H3912 m 13 := (f3946 m 13 _ gm rfl)
        have k3964 : H3941 x 8 = H3912 x 8 := (f3946 x 8 _ gx rfl)
        have k3965 : H3941 m 3 = H3912 m 3 := (f3946 m 3 _ gm rfl)
        have k3966 : H3941 x 0 = H x 0 := ((f3946 x 0 _ gx rfl).trans (f3917 x 0 _ gx rfl))
        have q3967 : H3941 x 0 = (tc : Int) := k3966.trans e0
        have k3968 : H3941 m 5 = H m 5 := ((f3946 m 5 _ gm rfl).trans (f3917 m 5 _ gm rfl))
        have q3969 : H3941 m 5 = (tm : Int) := k3968.trans em
        have k3970 : H3941 x 6 = H x 6 := ((f3946 x 6 _ gx rfl).trans (f3917 x 6 _ gx rfl))
        have q3971 : H3941 x 6 = (cu : Int) := k3970.trans ecu
        have k3972 : H3941 x 7 = H x 7 := ((f3946 x 7 _ gx rfl).trans (f3917 x 7 _ gx rfl))
        have q3973 : H3941 x 7 = (dr : Int) := k3972.trans edr
        have h3974 : CEN T H3941 ce8 e8 d8 := (CEN_fr w3916 gce8 f3946 rfl a3923)
        have h3975 : TP T H3941 tc B := (TP_fr w3916 gtc f3946 rfl (TP_fr hW gtc f3917 rfl htc))
        have h3976 : TM T H3941 tm B := (TM_fr w3916 gtm f3946 rfl (TM_fr hW gtm f3917 rfl htm))
        have h3977 : DD T H3941 cu  := (DD_fr w3916 gcu f3946 rfl (DD_fr hW gcu f3917 rfl hcu))
        have h3978 : DD T H3941 dr  := (DD_fr w3916 gdr f3946 rfl (DD_fr hW gdr f3917 rfl hdr))
        have h3979 : DE T H3941 cu  := (DE_fr w3916 gcu f3946 rfl (DE_fr hW gcu f3917 rfl hdec))
        have h3980 : DE T H3941 dr  := (DE_fr w3916 gdr f3946 rfl (DE_fr hW gdr f3917 rfl hded))
        have h3981 : SP T H3941 x C8 := (SP_fr w3916 gx f3946 rfl (SP_fr hW gx f3917 rfl hsp))
        have h3982 : CU T H3941 cu e8 d8 n8 := (CU_fr w3916 gcu f3946 rfl (CU_fr hW gcu f3917 rfl hcu8))
        have h3983 : CY T H3941 cu (d8 0 3) g8 (H cu 17) := (CY_fr w3916 gcu f3946 rfl (CY_fr hW gcu f3917 rfl h3905))
        have k3984 : H3941 x 3 = H x 3 := ((f3946 x 3 _ gx rfl).trans (f3917 x 3 _ gx rfl))
        have q3985 : H3941 x 3 = (ce8 : Int) := k3984.trans ece8
        have h3986 : HDR T H3941 ce8  := (HDR_fr w3916 gce8 f3946 rfl (HDR_fr hW gce8 f3917 rfl hhdr8))
        have h3987 : RY T H3941 m (d8 0 3) g8 (H m 32) := (RY_fr w3916 gm f3946 rfl (RY_fr hW gm f3917 rfl h3906))
        have h3988 : RB T H3941 m e8 d8 := (RB_fr w3916 gm f3946 rfl h3937)
        exact WL.loc hX (by simp) (next T H3941 ⟨⟨w3945, g0, gx, gm, go, by omega, by omega⟩, ⟨_, tc, tm, cu, dr, _, _, _, _, _, ce8, q3967, gtc, h3975, q3969, gtm, h3976, q3971, gcu, q3973, gdr, h3977, h3978, h3979, h3980, h3981, hC1, hC2, h3982, h3988, (h3983).1, (h3987).1, hE, hZ, (by omega), (by assumption), (by omega), (by first | assumption | exact SG_0), q3985, gce8, h3974, h3986, a3953, gm⟩, by omega, by omega⟩ (by omega) (by omega))
      · refine wl_of hX hb cL_1018 (rw_iconst (pc' := 1019) rfl ?_)
        exfalso
        omega
    · show WL _ _ _ _ 1014 [(4, vI i), (3, .ref o), (2, .ref m), (1, .ref x), (0, .ref 0)] [vL z3947, vL z3918] _ H3941
      refine wl_of hX hb cL_1014 (rw_lcmp (pc' := 1015) rfl ⟨b3919.1, b3919.2⟩ ⟨b3948.1, b3948.2⟩ ?_)
      have b3989 := wq_cmp_b z3918 z3947
      refine wl_of hX hb cL_1015 (rw_if_eq (p1 := 1654) (p2 := 1018) (by decide) rfl ⟨by omega, by omega⟩ (fun c3990 => ?_) (fun c3990 => ?_))
      · have k3991 : H3941 x 9 = H3912 x 9 := (f3946 x 9 _ gx rfl)
        have k3992 : H3941 m 6 = H3912 m 6 := (f3946 m 6 _ gm rfl)
        have k3993 : H3941 x 11 = H3912 x 11 := (f3946 x 11 _ gx rfl)
        have k3994 : H3941 m 13 = H3912 m 13 := (f3946 m 13 _ gm rfl)
        have k3995 : H3941 x 8 = H3912 x 8 := (f3946 x 8 _ gx rfl)
        have k3996 : H3941 m 3 = H3912 m 3 := (f3946 m 3 _ gm rfl)
        have k3997 : H3941 x 0 = H x 0 := ((f3946 x 0 _ gx rfl).trans (f3917 x 0 _ gx rfl))
        have q3998 : H3941 x 0 = (tc : Int) := k3997.trans e0
        have k3999 : H3941 m 5 = H m 5 := ((f3946 m 5 _ gm rfl).trans (f3917 m 5 _ gm rfl))
        have q4000 : H3941 m 5 = (tm : Int) := k3999.trans em
        have k4001 : H3941 x 6 = H x 6 := ((f3946 x 6 _ gx rfl).trans (f3917 x 6 _ gx rfl))
        have q4002 : H3941 x 6 = (cu : Int) := k4001.trans ecu
        have k4003 : H3941 x 7 = H x 7 := ((f3946 x 7 _ gx rfl).trans (f3917 x 7 _ gx rfl))
        have q4004 : H3941 x 7 = (dr : Int) := k4003.trans edr
        have h4005 : CEN T H3941 ce8 e8 d8 := (CEN_fr w3916 gce8 f3946 rfl a3923)
        have h4006 : TP T H3941 tc B := (TP_fr w3916 gtc f3946 rfl (TP_fr hW gtc f3917 rfl htc))
        have h4007 : TM T H3941 tm B := (TM_fr w3916 gtm f3946 rfl (TM_fr hW gtm f3917 rfl htm))
        have h4008 : DD T H3941 cu  := (DD_fr w3916 gcu f3946 rfl (DD_fr hW gcu f3917 rfl hcu))
        have h4009 : DD T H3941 dr  := (DD_fr w3916 gdr f3946 rfl (DD_fr hW gdr f3917 rfl hdr))
        have h4010 : DE T H3941 cu  := (DE_fr w3916 gcu f3946 rfl (DE_fr hW gcu f3917 rfl hdec))
        have h4011 : DE T H3941 dr  := (DE_fr w3916 gdr f3946 rfl (DE_fr hW gdr f3917 rfl hded))
        have h4012 : SP T H3941 x C8 := (SP_fr w3916 gx f3946 rfl (SP_fr hW gx f3917 rfl hsp))
        have h4013 : CU T H3941 cu e8 d8 n8 := (CU_fr w3916 gcu f3946 rfl (CU_fr hW gcu f3917 rfl hcu8))
        have h4014 : CY T H3941 cu (d8 0 3) g8 (H cu 17) := (CY_fr w3916 gcu f3946 rfl (CY_fr hW gcu f3917 rfl h3905))
        have k4015 : H3941 x 3 = H x 3 := ((f3946 x 3 _ gx rfl).trans (f3917 x 3 _ gx rfl))
        have q4016 : H3941 x 3 = (ce8 : Int) := k4015.trans ece8
        have h4017 : HDR T H3941 ce8  := (HDR_fr w3916 gce8 f3946 rfl (HDR_fr hW gce8 f3917 rfl hhdr8))
        have h4018 : RY T H3941 m (d8 0 3) g8 (H m 32) := (RY_fr w3916 gm f3946 rfl (RY_fr hW gm f3917 rfl h3906))
        have h4019 : RB T H3941 m e8 d8 := (RB_fr w3916 gm f3946 rfl h3937)
        exact WL.loc hX (by simp) (next T H3941 ⟨⟨w3945, g0, gx, gm, go, by omega, by omega⟩, ⟨_, tc, tm, cu, dr, _, _, _, _, _, ce8, q3998, gtc, h4006, q4000, gtm, h4007, q4002, gcu, q4004, gdr, h4008, h4009, h4010, h4011, h4012, hC1, hC2, h4013, h4019, (h4014).1, (h4018).1, hE, hZ, (by omega), (by assumption), (by omega), (by first | assumption | exact SG_0), q4016, gce8, h4005, h4017, a3957, gm⟩, by omega, by omega⟩ (by omega) (by omega))
      · refine wl_of hX hb cL_1018 (rw_iconst (pc' := 1019) rfl ?_)
        exfalso
        omega
  · show WL _ _ _ _ 1004 [(4, vI i), (3, .ref o), (2, .ref m), (1, .ref x), (0, .ref 0)] [vL z3918] _ H3912
    refine wl_of hX hb cL_1004 (rw_aload_n (pc' := 1005) (v := .ref m) rfl rfl rfl ?_)
    refine wl_of hX hb cL_1005 (rw_aload_n (pc' := 1006) (v := .ref 0) rfl rfl rfl ?_)
    refine wl_of hX hb cL_1006 (rw_iload (pc' := 1008) (z := i) rfl rfl ?_)
    refine wl_of hX hb cL_1008 (rw_iconst (pc' := 1009) rfl ?_)
    refine wl_of hX hb cL_1009 (rw_iadd (pc' := 1010) rfl ?_)
    have k4022 : H3912 0 ((i + 1).toNat) = H 0 ((i + 1).toNat) := (f3917 0 ((i + 1).toNat) _ g0 (wmem_s rfl))
    refine wl_of hX hb cL_1010 (xa_I (so := 0) (pc' := 1011) (a := 0) w3916 g0 (wsh_s _) (by omega) (wty_s _ _) (by omega) (by omega) rfl (fun b4020 b4021 => ?_))
    have k4023 : wKI H3912 m = wKI H m := (wKI_fr hW gm f3917 rfl)
    have k4024 : H3912 x 9 = H x 9 := (f3917 x 9 _ gx rfl)
    have k4025 : H3912 m 6 = H m 6 := (f3917 m 6 _ gm rfl)
    have k4026 : H3912 x 11 = H x 11 := (f3917 x 11 _ gx rfl)
    have k4027 : H3912 m 13 = H m 13 := (f3917 m 13 _ gm rfl)
    have k4028 : H3912 x 8 = H x 8 := (f3917 x 8 _ gx rfl)
    have k4029 : H3912 m 3 = H m 3 := (f3917 m 3 _ gm rfl)
    rw [show H3912 0 ((i + 1).toNat) = H 0 ((i + 1).toNat) by omega]
    have h4030 : RB T H3912 m e8 d8 := (RB_fr hW gm f3917 rfl hrb8)
    have h4031 : KNN T H3912 m e8 d8 := (KNN_fr hW gm f3917 rfl hknn8)
    refine wl_of hX hb cL_1011 (xc_V (pc' := 1014) (r := m) (as := [vI (H 0 ((i + 1).toNat))]) (st := [vL z3918]) (lm_11_134) rfl rfl (Nat.le_of_ble_eq_true rfl) w3916 gm sh_42 (by decide) rfl (by decide) (u_260 (e := e8) (d := d8) w3916 gm ⟨by omega, by omega⟩ (by omega) (by assumption) (by assumption) (by assumption) (by assumption) h4030 h4031) (fun R4032 T4033 H4034 p4035 => ?_))
    obtain ⟨e4036, w4038, f4039, z4040, e4037, b4041, p4042⟩ := p4035
    subst e4036
    subst e4037
    rcases p4042 with ⟨a4043, a4044, a4045, a4046⟩ | ⟨a4047, a4048, a4049, a4050⟩
    · show WL _ _ _ _ 1014 [(4, vI i), (3, .ref o), (2, .ref m), (1, .ref x), (0, .ref 0)] [vL z4040, vL z3918] _ H4034
      refine wl_of hX hb cL_1014 (rw_lcmp (pc' := 1015) rfl ⟨b3919.1, b3919.2⟩ ⟨b4041.1, b4041.2⟩ ?_)
      have b4051 := wq_cmp_b z3918 z4040
      refine wl_of hX hb cL_1015 (rw_if_eq (p1 := 1654) (p2 := 1018) (by decide) rfl ⟨by omega, by omega⟩ (fun c4052 => ?_) (fun c4052 => ?_))
      · have k4053 : H4034 x 9 = H3912 x 9 := (f4039 x 9 _ gx rfl)
        have k4054 : H4034 m 6 = H3912 m 6 := (f4039 m 6 _ gm rfl)
        have k4055 : H4034 x 11 = H3912 x 11 := (f4039 x 11 _ gx rfl)
        have k4056 : H4034 m 13 = H3912 m 13 := (f4039 m 13 _ gm rfl)
        have k4057 : H4034 x 8 = H3912 x 8 := (f4039 x 8 _ gx rfl)
        have k4058 : H4034 m 3 = H3912 m 3 := (f4039 m 3 _ gm rfl)
        have k4059 : H4034 x 0 = H x 0 := ((f4039 x 0 _ gx rfl).trans (f3917 x 0 _ gx rfl))
        have q4060 : H4034 x 0 = (tc : Int) := k4059.trans e0
        have k4061 : H4034 m 5 = H m 5 := ((f4039 m 5 _ gm rfl).trans (f3917 m 5 _ gm rfl))
        have q4062 : H4034 m 5 = (tm : Int) := k4061.trans em
        have k4063 : H4034 x 6 = H x 6 := ((f4039 x 6 _ gx rfl).trans (f3917 x 6 _ gx rfl))
        have q4064 : H4034 x 6 = (cu : Int) := k4063.trans ecu
        have k4065 : H4034 x 7 = H x 7 := ((f4039 x 7 _ gx rfl).trans (f3917 x 7 _ gx rfl))
        have q4066 : H4034 x 7 = (dr : Int) := k4065.trans edr
        have h4067 : CEN T H4034 ce8 e8 d8 := (CEN_fr w3916 gce8 f4039 rfl a3926)
        have h4068 : TP T H4034 tc B := (TP_fr w3916 gtc f4039 rfl (TP_fr hW gtc f3917 rfl htc))
        have h4069 : TM T H4034 tm B := (TM_fr w3916 gtm f4039 rfl (TM_fr hW gtm f3917 rfl htm))
        have h4070 : DD T H4034 cu  := (DD_fr w3916 gcu f4039 rfl (DD_fr hW gcu f3917 rfl hcu))
        have h4071 : DD T H4034 dr  := (DD_fr w3916 gdr f4039 rfl (DD_fr hW gdr f3917 rfl hdr))
        have h4072 : DE T H4034 cu  := (DE_fr w3916 gcu f4039 rfl (DE_fr hW gcu f3917 rfl hdec))
        have h4073 : DE T H4034 dr  := (DE_fr w3916 gdr f4039 rfl (DE_fr hW gdr f3917 rfl hded))
        have h4074 : SP T H4034 x C8 := (SP_fr w3916 gx f4039 rfl (SP_fr hW gx f3917 rfl hsp))
        have h4075 : CU T H4034 cu e8 d8 n8 := (CU_fr w3916 gcu f4039 rfl (CU_fr hW gcu f3917 rfl hcu8))
        have h4076 : CY T H4034 cu (d8 0 3) g8 (H cu 17) := (CY_fr w3916 gcu f4039 rfl (CY_fr hW gcu f3917 rfl h3905))
        have k4077 : H4034 x 3 = H x 3 := ((f4039 x 3 _ gx rfl).trans (f3917 x 3 _ gx rfl))
        have q4078 : H4034 x 3 = (ce8 : Int) := k4077.trans ece8
        have h4079 : HDR T H4034 ce8  := (HDR_fr w3916 gce8 f4039 rfl (HDR_fr hW gce8 f3917 rfl hhdr8))
        have h4080 : RY T H4034 m (d8 0 3) g8 (H m 32) := (RY_fr w3916 gm f4039 rfl (RY_fr hW gm f3917 rfl h3906))
        have h4081 : RB T H4034 m e8 d8 := (RB_fr w3916 gm f4039 rfl h4030)
        exact WL.loc hX (by simp) (next T H4034 ⟨⟨w4038, g0, gx, gm, go, by omega, by omega⟩, ⟨_, tc, tm, cu, dr, _, _, _, _, _, ce8, q4060, gtc, h4068, q4062, gtm, h4069, q4064, gcu, q4066, gdr, h4070, h4071, h4072, h4073, h4074, hC1, hC2, h4075, h4081, (h4076).1, (h4080).1, hE, hZ, (by omega), (by assumption), (by omega), (by first | assumption | exact SG_0), q4078, gce8, h4067, h4079, a4046, gm⟩, by omega, by omega⟩ (by omega) (by omega))
      · refine wl_of hX hb cL_1018 (rw_iconst (pc' := 1019) rfl ?_)
        exfalso
        omega
    · show WL _ _ _ _ 1014 [(4, vI i), (3, .ref o), (2, .ref m), (1, .ref x), (0, .ref 0)] [vL z4040, vL z3918] _ H4034
      refine wl_of hX hb cL_1014 (rw_lcmp (pc' := 1015) rfl ⟨b3919.1, b3919.2⟩ ⟨b4041.1, b4041.2⟩ ?_)
      have b4082 := wq_cmp_b z3918 z4040
      refine wl_of hX hb cL_1015 (rw_if_eq (p1 := 1654) (p2 := 1018) (by decide) rfl ⟨by omega, by omega⟩ (fun c4083 => ?_) (fun c4083 => ?_))
      · have k4084 : H4034 x 9 = H3912 x 9 := (f4039 x 9 _ gx rfl)
        have k4085 : H4034 m 6 = H3912 m 6 := (f4039 m 6 _ gm rfl)
        have k4086 : H4034 x 11 = H3912 x 11 := (f4039 x 11 _ gx rfl)
        have k4087 : H4034 m 13 = H3912 m 13 := (f4039 m 13 _ gm rfl)
        have k4088 : H4034 x 8 = H3912 x 8 := (f4039 x 8 _ gx rfl)
        have k4089 : H4034 m 3 = H3912 m 3 := (f4039 m 3 _ gm rfl)
        have k4090 : H4034 x 0 = H x 0 := ((f4039 x 0 _ gx rfl).trans (f3917 x 0 _ gx rfl))
        have q4091 : H4034 x 0 = (tc : Int) := k4090.trans e0
        have k4092 : H4034 m 5 = H m 5 := ((f4039 m 5 _ gm rfl).trans (f3917 m 5 _ gm rfl))
        have q4093 : H4034 m 5 = (tm : Int) := k4092.trans em
        have k4094 : H4034 x 6 = H x 6 := ((f4039 x 6 _ gx rfl).trans (f3917 x 6 _ gx rfl))
        have q4095 : H4034 x 6 = (cu : Int) := k4094.trans ecu
        have k4096 : H4034 x 7 = H x 7 := ((f4039 x 7 _ gx rfl).trans (f3917 x 7 _ gx rfl))
        have q4097 : H4034 x 7 = (dr : Int) := k4096.trans edr
        have h4098 : CEN T H4034 ce8 e8 d8 := (CEN_fr w3916 gce8 f4039 rfl a3926)
        have h4099 : TP T H4034 tc B := (TP_fr w3916 gtc f4039 rfl (TP_fr hW gtc f3917 rfl htc))
        have h4100 : TM T H4034 tm B := (TM_fr w3916 gtm f4039 rfl (TM_fr hW gtm f3917 rfl htm))
        have h4101 : DD T H4034 cu  := (DD_fr w3916 gcu f4039 rfl (DD_fr hW gcu f3917 rfl hcu))
        have h4102 : DD T H4034 dr  := (DD_fr w3916 gdr f4039 rfl (DD_fr hW gdr f3917 rfl hdr))
        have h4103 : DE T H4034 cu  := (DE_fr w3916 gcu f4039 rfl (DE_fr hW gcu f3917 rfl hdec))
        have h4104 : DE T H4034 dr  := (DE_fr w3916 gdr f4039 rfl (DE_fr hW gdr f3917 rfl hded))
        have h4105 : SP T H4034 x C8 := (SP_fr w3916 gx f4039 rfl (SP_fr hW gx f3917 rfl hsp))
        have h4106 : CU T H4034 cu e8 d8 n8 := (CU_fr w3916 gcu f4039 rfl (CU_fr hW gcu f3917 rfl hcu8))
        have h4107 : CY T H4034 cu (d8 0 3) g8 (H cu 17) := (CY_fr w3916 gcu f4039 rfl (CY_fr hW gcu f3917 rfl h3905))
        have k4108 : H4034 x 3 = H x 3 := ((f4039 x 3 _ gx rfl).trans (f3917 x 3 _ gx rfl))
        have q4109 : H4034 x 3 = (ce8 : Int) := k4108.trans ece8
        have h4110 : HDR T H4034 ce8  := (HDR_fr w3916 gce8 f4039 rfl (HDR_fr hW gce8 f3917 rfl hhdr8))
        have h4111 : RY T H4034 m (d8 0 3) g8 (H m 32) := (RY_fr w3916 gm f4039 rfl (RY_fr hW gm f3917 rfl h3906))
        have h4112 : RB T H4034 m e8 d8 := (RB_fr w3916 gm f4039 rfl h4030)
        exact WL.loc hX (by simp) (next T H4034 ⟨⟨w4038, g0, gx, gm, go, by omega, by omega⟩, ⟨_, tc, tm, cu, dr, _, _, _, _, _, ce8, q4091, gtc, h4099, q4093, gtm, h4100, q4095, gcu, q4097, gdr, h4101, h4102, h4103, h4104, h4105, hC1, hC2, h4106, h4112, (h4107).1, (h4111).1, hE, hZ, (by omega), (by assumption), (by omega), (by first | assumption | exact SG_0), q4109, gce8, h4098, h4110, a4050, gm⟩, by omega, by omega⟩ (by omega) (by omega))
      · refine wl_of hX hb cL_1018 (rw_iconst (pc' := 1019) rfl ?_)
        exfalso
        omega
set_option maxHeartbeats 4000000 in
theorem wl_c27 {kt : Nat → Option mc_E} {CB SB : Nat} {X : mc_S → Prop} {T : wq_T} {H : wq_H} {Len x m o : Nat} {i : Int} (hX : wlX kt CB SB X) (hb : T.2.1 ≤ CB ∧ T.2.2.1 ≤ SB) (hI : wlJ Len x m o T H) (hL : Len ≤ 3072) (hi : 0 ≤ i ∧ i + 6 ≤ Len) (hb2 : T.2.1 + 20 ≤ CB ∧ T.2.2.1 + 500 ≤ SB)  (next : ∀ T' H', wlJ Len x m o T' H' → T'.2.1 ≤ T.2.1 + 20 → T'.2.2.1 ≤ T.2.2.1 + 500 → WL kt CB SB X 1654 (wlL i x m o) [] T' H') : WL kt CB SB X 1020 (wlL i x m o) [] T H := by
  obtain ⟨⟨hW, g0, gx, gm, go, hK, hr⟩, hXI, hY1, hY2⟩ := hI
  refine wl_of hX hb cL_1020 (rw_aload_n (pc' := 1021) (v := .ref x) rfl rfl rfl ?_)
  refine wl_of hX hb cL_1021 (rw_aload_n (pc' := 1022) (v := .ref 0) rfl rfl rfl ?_)
  refine wl_of hX hb cL_1022 (rw_iload (pc' := 1024) (z := i) rfl rfl ?_)
  refine wl_of hX hb cL_1024 (rw_iconst (pc' := 1025) rfl ?_)
  refine wl_of hX hb cL_1025 (rw_iadd (pc' := 1026) rfl ?_)
  refine wl_of hX hb cL_1026 (xa_I (so := 0) (pc' := 1027) (a := 0) hW g0 (wsh_s _) (by omega) (wty_s _ _) (by omega) (by omega) rfl (fun b4113 b4114 => ?_))
  refine wl_of hX hb cL_1027 (rw_aload_n (pc' := 1028) (v := .ref 0) rfl rfl rfl ?_)
  refine wl_of hX hb cL_1028 (rw_iload (pc' := 1030) (z := i) rfl rfl ?_)
  refine wl_of hX hb cL_1030 (rw_iconst (pc' := 1031) rfl ?_)
  refine wl_of hX hb cL_1031 (rw_iadd (pc' := 1032) rfl ?_)
  refine wl_of hX hb cL_1032 (xa_I (so := 0) (pc' := 1033) (a := 0) hW g0 (wsh_s _) (by omega) (wty_s _ _) (by omega) (by omega) rfl (fun b4115 b4116 => ?_))
  obtain ⟨B, tc, tm, cu, dr, C8, e8, d8, n8, g8, ce8, e0, gtc, htc, em, gtm, htm, ecu, gcu, edr, gdr, hcu, hdr, hdec, hded, hsp, hC1, hC2, hcu8, hrb8, hcg8, hmn8, hE, hZ, hn8, hXA, hV8, hSG, ece8, gce8, hcen8, hhdr8, hknn8, -⟩ := hXI
  have hN3 := RB_n3 hrb8
  have hE13 : ∀ h : Nat, h < 24 → 0 ≤ e8 13 h ∧ e8 13 h ≤ 100 := fun k hk => by
    obtain ⟨s, h1, h2, h3⟩ := hcu8.1.2.2.1
    exact ⟨(h3 k hk).1, (h3 k hk).2.1⟩
  have hXW := hXA.1
  have hXN := hXA.2
  have hE0 : e8 0 3 = d8 0 3 ∧ e8 0 0 = d8 0 0 := by
    have h := hE 0 (by decide)
    exact ⟨congrFun h 3, congrFun h 0⟩
  have u4117 := CU_k hcu8
  have h4118 : CY T H cu (d8 0 3) g8 (H cu 17) := ⟨hcg8, rfl⟩
  have h4119 : RY T H m (d8 0 3) g8 (H m 32) := ⟨hmn8, rfl⟩
  obtain ⟨t9, ht9⟩ : ∃ t : Int, t = H x 9 := ⟨_, rfl⟩
  obtain ⟨y9, hy9⟩ : ∃ y : Int, y = H 0 ((i + 2).toNat) := ⟨_, rfl⟩
  obtain ⟨r4120, q4121, g4122⟩ := hW.ref gx (t' := 6) (n := 13) (j := 2) (p := 0) (q := 0) rfl (by decide) rfl
  refine wl_of hX hb cL_1033 (xc_V (pc' := 1036) (r := x) (as := [vI (H 0 ((i + 1).toNat)), vI (H 0 ((i + 2).toNat))]) (st := []) (lm_11_135) rfl rfl (Nat.le_of_ble_eq_true rfl) hW gx sh_1 (by decide) rfl (by decide) (u_114 (e := e8) (d := d8) (n := n8) hW gx ⟨by omega, by omega⟩ ⟨by omega, by omega⟩ ecu gcu q4121 g4122 ece8 gce8 (by assumption) (by assumption) (by omega) (by omega) (by omega) (by omega) hcu8 hcen8 hhdr8) (fun R4123 T4124 H4125 p4126 => ?_))
  obtain ⟨e4127, w4129, f4130, z4131, e4128, b4132, p4133⟩ := p4126
  subst e4127
  subst e4128
  show WL _ _ _ _ 1036 [(4, vI i), (3, .ref o), (2, .ref m), (1, .ref x), (0, .ref 0)] [vI z4131] _ H4125
  refine wl_of hX hb cL_1036 (rw_pop (pc' := 1037) rfl rfl ?_)
  refine wl_of hX hb cL_1037 (rw_aload_n (pc' := 1038) (v := .ref m) rfl rfl rfl ?_)
  refine wl_of hX hb cL_1038 (rw_aload_n (pc' := 1039) (v := .ref 0) rfl rfl rfl ?_)
  refine wl_of hX hb cL_1039 (rw_iload (pc' := 1041) (z := i) rfl rfl ?_)
  refine wl_of hX hb cL_1041 (rw_iconst (pc' := 1042) rfl ?_)
  refine wl_of hX hb cL_1042 (rw_iadd (pc' := 1043) rfl ?_)
  have k4137 : H4125 0 ((i + 1).toNat) = H 0 ((i + 1).toNat) := (f4130 0 ((i + 1).toNat) _ g0 (wmem_s rfl))
  refine wl_of hX hb cL_1043 (xa_I (so := 0) (pc' := 1044) (a := 0) w4129 g0 (wsh_s _) (by omega) (wty_s _ _) (by omega) (by omega) rfl (fun b4135 b4136 => ?_))
  refine wl_of hX hb cL_1044 (rw_aload_n (pc' := 1045) (v := .ref 0) rfl rfl rfl ?_)
  refine wl_of hX hb cL_1045 (rw_iload (pc' := 1047) (z := i) rfl rfl ?_)
  refine wl_of hX hb cL_1047 (rw_iconst (pc' := 1048) rfl ?_)
  refine wl_of hX hb cL_1048 (rw_iadd (pc' := 1049) rfl ?_)
  have k4140 : H4125 0 ((i + 2).toNat) = H 0 ((i + 2).toNat) := (f4130 0 ((i + 2).toNat) _ g0 (wmem_s rfl))
  refine wl_of hX hb cL_1049 (xa_I (so := 0) (pc' := 1050) (a := 0) w4129 g0 (wsh_s _) (by omega) (wty_s _ _) (by omega) (by omega) rfl (fun b4138 b4139 => ?_))
  have k4141 : wKI H4125 m = wKI H m := (wKI_fr hW gm f4130 rfl)
  have k4142 : H4125 x 9 = H x 9 := (f4130 x 9 _ gx rfl)
  have k4143 : H4125 m 6 = H m 6 := (f4130 m 6 _ gm rfl)
  have k4144 : H4125 x 11 = H x 11 := (f4130 x 11 _ gx rfl)
  have k4145 : H4125 m 13 = H m 13 := (f4130 m 13 _ gm rfl)
  have k4146 : H4125 x 8 = H x 8 := (f4130 x 8 _ gx rfl)
  have k4147 : H4125 m 3 = H m 3 := (f4130 m 3 _ gm rfl)
  rw [show H4125 0 ((i + 2).toNat) = H 0 ((i + 2).toNat) by omega]
  rw [show H4125 0 ((i + 1).toNat) = H 0 ((i + 1).toNat) by omega]
  have h4148 : RB T H4125 m e8 d8 := (RB_fr hW gm f4130 rfl hrb8)
  have h4149 : KNN T H4125 m e8 d8 := (KNN_fr hW gm f4130 rfl hknn8)
  refine wl_of hX hb cL_1050 (xc_V (pc' := 1053) (r := m) (as := [vI (H 0 ((i + 1).toNat)), vI (H 0 ((i + 2).toNat))]) (st := []) (lm_11_138) rfl rfl (Nat.le_of_ble_eq_true rfl) w4129 gm sh_42 (by decide) rfl (by decide) (u_261 (e := e8) (d := d8) w4129 gm ⟨by omega, by omega⟩ ⟨by omega, by omega⟩ (by omega) (by assumption) (by assumption) (by assumption) (by assumption) h4148 h4149) (fun R4150 T4151 H4152 p4153 => ?_))
  obtain ⟨e4154, w4156, f4157, z4158, e4155, b4159, p4160⟩ := p4153
  subst e4154
  subst e4155
  obtain ⟨a4161, a4162⟩ := p4160
  show WL _ _ _ _ 1053 [(4, vI i), (3, .ref o), (2, .ref m), (1, .ref x), (0, .ref 0)] [vI z4158] _ H4152
  refine wl_of hX hb cL_1053 (rw_pop (pc' := 1054) rfl rfl ?_)
  refine wl_of hX hb cL_1054 (rw_goto (p1 := 1654) (by decide) ?_)
  have k4163 : H4152 x 9 = H4125 x 9 := (f4157 x 9 _ gx rfl)
  have k4164 : H4152 m 6 = H4125 m 6 := (f4157 m 6 _ gm rfl)
  have k4165 : H4152 x 11 = H4125 x 11 := (f4157 x 11 _ gx rfl)
  have k4166 : H4152 m 13 = H4125 m 13 := (f4157 m 13 _ gm rfl)
  have k4167 : H4152 x 8 = H4125 x 8 := (f4157 x 8 _ gx rfl)
  have k4168 : H4152 m 3 = H4125 m 3 := (f4157 m 3 _ gm rfl)
  have k4169 : H4152 x 0 = H x 0 := ((f4157 x 0 _ gx rfl).trans (f4130 x 0 _ gx rfl))
  have q4170 : H4152 x 0 = (tc : Int) := k4169.trans e0
  have k4171 : H4152 m 5 = H m 5 := ((f4157 m 5 _ gm rfl).trans (f4130 m 5 _ gm rfl))
  have q4172 : H4152 m 5 = (tm : Int) := k4171.trans em
  have k4173 : H4152 x 6 = H x 6 := ((f4157 x 6 _ gx rfl).trans (f4130 x 6 _ gx rfl))
  have q4174 : H4152 x 6 = (cu : Int) := k4173.trans ecu
  have k4175 : H4152 x 7 = H x 7 := ((f4157 x 7 _ gx rfl).trans (f4130 x 7 _ gx rfl))
  have q4176 : H4152 x 7 = (dr : Int) := k4175.trans edr
  have h4177 : CEN T H4152 ce8 e8 d8 := (CEN_fr w4129 gce8 f4157 rfl p4133)
  have h4178 : TP T H4152 tc B := (TP_fr w4129 gtc f4157 rfl (TP_fr hW gtc f4130 rfl htc))
  have h4179 : TM T H4152 tm B := (TM_fr w4129 gtm f4157 rfl (TM_fr hW gtm f4130 rfl htm))
  have h4180 : DD T H4152 cu  := (DD_fr w4129 gcu f4157 rfl (DD_fr hW gcu f4130 rfl hcu))
  have h4181 : DD T H4152 dr  := (DD_fr w4129 gdr f4157 rfl (DD_fr hW gdr f4130 rfl hdr))
  have h4182 : DE T H4152 cu  := (DE_fr w4129 gcu f4157 rfl (DE_fr hW gcu f4130 rfl hdec))
  have h4183 : DE T H4152 dr  := (DE_fr w4129 gdr f4157 rfl (DE_fr hW gdr f4130 rfl hded))
  have h4184 : SP T H4152 x C8 := (SP_fr w4129 gx f4157 rfl (SP_fr hW gx f4130 rfl hsp))
  have h4185 : CU T H4152 cu e8 d8 n8 := (CU_fr w4129 gcu f4157 rfl (CU_fr hW gcu f4130 rfl hcu8))
  have h4186 : CY T H4152 cu (d8 0 3) g8 (H cu 17) := (CY_fr w4129 gcu f4157 rfl (CY_fr hW gcu f4130 rfl h4118))
  have k4187 : H4152 x 3 = H x 3 := ((f4157 x 3 _ gx rfl).trans (f4130 x 3 _ gx rfl))
  have q4188 : H4152 x 3 = (ce8 : Int) := k4187.trans ece8
  have h4189 : HDR T H4152 ce8  := (HDR_fr w4129 gce8 f4157 rfl (HDR_fr hW gce8 f4130 rfl hhdr8))
  have h4190 : RY T H4152 m (d8 0 3) g8 (H m 32) := (RY_fr w4129 gm f4157 rfl (RY_fr hW gm f4130 rfl h4119))
  have h4191 : RB T H4152 m e8 d8 := (RB_fr w4129 gm f4157 rfl h4148)
  exact WL.loc hX (by simp) (next T H4152 ⟨⟨w4156, g0, gx, gm, go, by omega, by omega⟩, ⟨_, tc, tm, cu, dr, _, _, _, _, _, ce8, q4170, gtc, h4178, q4172, gtm, h4179, q4174, gcu, q4176, gdr, h4180, h4181, h4182, h4183, h4184, hC1, hC2, h4185, h4191, (h4186).1, (h4190).1, hE, hZ, (by omega), (by assumption), (by omega), (by first | assumption | exact SG_0), q4188, gce8, h4177, h4189, a4162, gm⟩, by omega, by omega⟩ (by omega) (by omega))
set_option maxHeartbeats 4000000 in
theorem wl_c28 {kt : Nat → Option mc_E} {CB SB : Nat} {X : mc_S → Prop} {T : wq_T} {H : wq_H} {Len x m o : Nat} {i : Int} (hX : wlX kt CB SB X) (hb : T.2.1 ≤ CB ∧ T.2.2.1 ≤ SB) (hI : wlJ Len x m o T H) (hL : Len ≤ 3072) (hi : 0 ≤ i ∧ i + 6 ≤ Len) (hb2 : T.2.1 + 20 ≤ CB ∧ T.2.2.1 + 500 ≤ SB)  (next : ∀ T' H', wlJ Len x m o T' H' → T'.2.1 ≤ T.2.1 + 20 → T'.2.2.1 ≤ T.2.2.1 + 500 → WL kt CB SB X 1654 (wlL i x m o) [] T' H') : WL kt CB SB X 1057 (wlL i x m o) [] T H := by
  obtain ⟨⟨hW, g0, gx, gm, go, hK, hr⟩, hXI, hY1, hY2⟩ := hI
  refine wl_of hX hb cL_1057 (rw_aload_n (pc' := 1058) (v := .ref x) rfl rfl rfl ?_)
  refine wl_of hX hb cL_1058 (rw_aload_n (pc' := 1059) (v := .ref 0) rfl rfl rfl ?_)
  refine wl_of hX hb cL_1059 (rw_iload (pc' := 1061) (z := i) rfl rfl ?_)
  refine wl_of hX hb cL_1061 (rw_iconst (pc' := 1062) rfl ?_)
  refine wl_of hX hb cL_1062 (rw_iadd (pc' := 1063) rfl ?_)
  refine wl_of hX hb cL_1063 (xa_I (so := 0) (pc' := 1064) (a := 0) hW g0 (wsh_s _) (by omega) (wty_s _ _) (by omega) (by omega) rfl (fun b4192 b4193 => ?_))
  refine wl_of hX hb cL_1064 (rw_aload_n (pc' := 1065) (v := .ref 0) rfl rfl rfl ?_)
  refine wl_of hX hb cL_1065 (rw_iload (pc' := 1067) (z := i) rfl rfl ?_)
  refine wl_of hX hb cL_1067 (rw_iconst (pc' := 1068) rfl ?_)
  refine wl_of hX hb cL_1068 (rw_iadd (pc' := 1069) rfl ?_)
  refine wl_of hX hb cL_1069 (xa_I (so := 0) (pc' := 1070) (a := 0) hW g0 (wsh_s _) (by omega) (wty_s _ _) (by omega) (by omega) rfl (fun b4194 b4195 => ?_))
  refine wl_of hX hb cL_1070 (rw_if_eq (p1 := 1077) (p2 := 1073) (by decide) rfl ⟨by omega, by omega⟩ (fun c4196 => ?_) (fun c4196 => ?_))
  · refine wl_of hX hb cL_1077 (rw_iconst (pc' := 1078) rfl ?_)
    obtain ⟨B, tc, tm, cu, dr, C8, e8, d8, n8, g8, ce8, e0, gtc, htc, em, gtm, htm, ecu, gcu, edr, gdr, hcu, hdr, hdec, hded, hsp, hC1, hC2, hcu8, hrb8, hcg8, hmn8, hE, hZ, hn8, hXA, hV8, hSG, ece8, gce8, hcen8, hhdr8, hknn8, -⟩ := hXI
    have hN3 := RB_n3 hrb8
    have hE13 : ∀ h : Nat, h < 24 → 0 ≤ e8 13 h ∧ e8 13 h ≤ 100 := fun k hk => by
      obtain ⟨s, h1, h2, h3⟩ := hcu8.1.2.2.1
      exact ⟨(h3 k hk).1, (h3 k hk).2.1⟩
    have hXW := hXA.1
    have hXN := hXA.2
    have hE0 : e8 0 3 = d8 0 3 ∧ e8 0 0 = d8 0 0 := by
      have h := hE 0 (by decide)
      exact ⟨congrFun h 3, congrFun h 0⟩
    have u4197 := CU_k hcu8
    have h4198 : CY T H cu (d8 0 3) g8 (H cu 17) := ⟨hcg8, rfl⟩
    have h4199 : RY T H m (d8 0 3) g8 (H m 32) := ⟨hmn8, rfl⟩
    obtain ⟨t9, ht9⟩ : ∃ t : Int, t = H x 9 := ⟨_, rfl⟩
    obtain ⟨y9, hy9⟩ : ∃ y : Int, y = 0 := ⟨_, rfl⟩
    obtain ⟨r4200, q4201, g4202⟩ := hW.ref gx (t' := 6) (n := 13) (j := 2) (p := 0) (q := 0) rfl (by decide) rfl
    refine wl_of hX hb cL_1078 (xc_V (pc' := 1081) (r := x) (as := [vI (H 0 ((i + 1).toNat)), vI 0]) (st := []) (lm_11_139) rfl rfl (Nat.le_of_ble_eq_true rfl) hW gx sh_1 (by decide) rfl (by decide) (u_117 (e := e8) (d := d8) (n := n8) hW gx ⟨by omega, by omega⟩ ⟨by decide, by decide⟩ ecu gcu q4201 g4202 ece8 gce8 (by assumption) (by assumption) (by omega) (by omega) (by omega) (by omega) hcu8 hcen8 hhdr8) (fun R4203 T4204 H4205 p4206 => ?_))
    obtain ⟨e4207, w4209, f4210, z4211, e4208, b4212, p4213⟩ := p4206
    subst e4207
    subst e4208
    show WL _ _ _ _ 1081 [(4, vI i), (3, .ref o), (2, .ref m), (1, .ref x), (0, .ref 0)] [vI z4211] _ H4205
    refine wl_of hX hb cL_1081 (rw_pop (pc' := 1082) rfl rfl ?_)
    refine wl_of hX hb cL_1082 (rw_aload_n (pc' := 1083) (v := .ref m) rfl rfl rfl ?_)
    refine wl_of hX hb cL_1083 (rw_aload_n (pc' := 1084) (v := .ref 0) rfl rfl rfl ?_)
    refine wl_of hX hb cL_1084 (rw_iload (pc' := 1086) (z := i) rfl rfl ?_)
    refine wl_of hX hb cL_1086 (rw_iconst (pc' := 1087) rfl ?_)
    refine wl_of hX hb cL_1087 (rw_iadd (pc' := 1088) rfl ?_)
    have k4217 : H4205 0 ((i + 1).toNat) = H 0 ((i + 1).toNat) := (f4210 0 ((i + 1).toNat) _ g0 (wmem_s rfl))
    refine wl_of hX hb cL_1088 (xa_I (so := 0) (pc' := 1089) (a := 0) w4209 g0 (wsh_s _) (by omega) (wty_s _ _) (by omega) (by omega) rfl (fun b4215 b4216 => ?_))
    refine wl_of hX hb cL_1089 (rw_aload_n (pc' := 1090) (v := .ref 0) rfl rfl rfl ?_)
    refine wl_of hX hb cL_1090 (rw_iload (pc' := 1092) (z := i) rfl rfl ?_)
    refine wl_of hX hb cL_1092 (rw_iconst (pc' := 1093) rfl ?_)
    refine wl_of hX hb cL_1093 (rw_iadd (pc' := 1094) rfl ?_)
    have k4220 : H4205 0 ((i + 2).toNat) = H 0 ((i + 2).toNat) := (f4210 0 ((i + 2).toNat) _ g0 (wmem_s rfl))
    refine wl_of hX hb cL_1094 (xa_I (so := 0) (pc' := 1095) (a := 0) w4209 g0 (wsh_s _) (by omega) (wty_s _ _) (by omega) (by omega) rfl (fun b4218 b4219 => ?_))
    refine wl_of hX hb cL_1095 (rw_if_eq (p1 := 1102) (p2 := 1098) (by decide) rfl ⟨by omega, by omega⟩ (fun c4221 => ?_) (fun c4221 => ?_))
    · refine wl_of hX hb cL_1102 (rw_iconst (pc' := 1103) rfl ?_)
      have k4222 : wKI H4205 m = wKI H m := (wKI_fr hW gm f4210 rfl)
      have k4223 : H4205 x 9 = H x 9 := (f4210 x 9 _ gx rfl)
      have k4224 : H4205 m 6 = H m 6 := (f4210 m 6 _ gm rfl)
      have k4225 : H4205 x 11 = H x 11 := (f4210 x 11 _ gx rfl)
      have k4226 : H4205 m 13 = H m 13 := (f4210 m 13 _ gm rfl)
      have k4227 : H4205 x 8 = H x 8 := (f4210 x 8 _ gx rfl)
      have k4228 : H4205 m 3 = H m 3 := (f4210 m 3 _ gm rfl)
      rw [show H4205 0 ((i + 1).toNat) = H 0 ((i + 1).toNat) by omega]
      have h4229 : RB T H4205 m e8 d8 := (RB_fr hW gm f4210 rfl hrb8)
      have h4230 : KNN T H4205 m e8 d8 := (KNN_fr hW gm f4210 rfl hknn8)
      refine wl_of hX hb cL_1103 (xc_V (pc' := 1106) (r := m) (as := [vI (H 0 ((i + 1).toNat)), vI 0]) (st := []) (lm_11_142) rfl rfl (Nat.le_of_ble_eq_true rfl) w4209 gm sh_42 (by decide) rfl (by decide) (u_263 (e := e8) (d := d8) w4209 gm ⟨by omega, by omega⟩ ⟨by decide, by decide⟩ (by omega) (by assumption) (by assumption) (by assumption) (by assumption) h4229 h4230) (fun R4231 T4232 H4233 p4234 => ?_))
      obtain ⟨e4235, w4237, f4238, z4239, e4236, b4240, p4241⟩ := p4234
      subst e4235
      subst e4236
      obtain ⟨a4242, a4243⟩ := p4241
      show WL _ _ _ _ 1106 [(4, vI i), (3, .ref o), (2, .ref m), (1, .ref x), (0, .ref 0)] [vI z4239] _ H4233
      refine wl_of hX hb cL_1106 (rw_pop (pc' := 1107) rfl rfl ?_)
      refine wl_of hX hb cL_1107 (rw_goto (p1 := 1654) (by decide) ?_)
      have k4244 : H4233 x 9 = H4205 x 9 := (f4238 x 9 _ gx rfl)
      have k4245 : H4233 m 6 = H4205 m 6 := (f4238 m 6 _ gm rfl)
      have k4246 : H4233 x 11 = H4205 x 11 := (f4238 x 11 _ gx rfl)
      have k4247 : H4233 m 13 = H4205 m 13 := (f4238 m 13 _ gm rfl)
      have k4248 : H4233 x 8 = H4205 x 8 := (f4238 x 8 _ gx rfl)
      have k4249 : H4233 m 3 = H4205 m 3 := (f4238 m 3 _ gm rfl)
      have k4250 : H4233 x 0 = H x 0 := ((f4238 x 0 _ gx rfl).trans (f4210 x 0 _ gx rfl))
      have q4251 : H4233 x 0 = (tc : Int) := k4250.trans e0
      have k4252 : H4233 m 5 = H m 5 := ((f4238 m 5 _ gm rfl).trans (f4210 m 5 _ gm rfl))
      have q4253 : H4233 m 5 = (tm : Int) := k4252.trans em
      have k4254 : H4233 x 6 = H x 6 := ((f4238 x 6 _ gx rfl).trans (f4210 x 6 _ gx rfl))
      have q4255 : H4233 x 6 = (cu : Int) := k4254.trans ecu
      have k4256 : H4233 x 7 = H x 7 := ((f4238 x 7 _ gx rfl).trans (f4210 x 7 _ gx rfl))
      have q4257 : H4233 x 7 = (dr : Int) := k4256.trans edr
      have h4258 : CEN T H4233 ce8 e8 d8 := (CEN_fr w4209 gce8 f4238 rfl p4213)
      have h4259 : TP T H4233 tc B := (TP_fr w4209 gtc f4238 rfl (TP_fr hW gtc f4210 rfl htc))
      have h4260 : TM T H4233 tm B := (TM_fr w4209 gtm f4238 rfl (TM_fr hW gtm f4210 rfl htm))
      have h4261 : DD T H4233 cu  := (DD_fr w4209 gcu f4238 rfl (DD_fr hW gcu f4210 rfl hcu))
      have h4262 : DD T H4233 dr  := (DD_fr w4209 gdr f4238 rfl (DD_fr hW gdr f4210 rfl hdr))
      have h4263 : DE T H4233 cu  := (DE_fr w4209 gcu f4238 rfl (DE_fr hW gcu f4210 rfl hdec))
      have h4264 : DE T H4233 dr  := (DE_fr w4209 gdr f4238 rfl (DE_fr hW gdr f4210 rfl hded))
      have h4265 : SP T H4233 x C8 := (SP_fr w4209 gx f4238 rfl (SP_fr hW gx f4210 rfl hsp))
      have h4266 : CU T H4233 cu e8 d8 n8 := (CU_fr w4209 gcu f4238 rfl (CU_fr hW gcu f4210 rfl hcu8))
      have h4267 : CY T H4233 cu (d8 0 3) g8 (H cu 17) := (CY_fr w4209 gcu f4238 rfl (CY_fr hW gcu f4210 rfl h4198))
      have k4268 : H4233 x 3 = H x 3 := ((f4238 x 3 _ gx rfl).trans (f4210 x 3 _ gx rfl))
      have q4269 : H4233 x 3 = (ce8 : Int) := k4268.trans ece8
      have h4270 : HDR T H4233 ce8  := (HDR_fr w4209 gce8 f4238 rfl (HDR_fr hW gce8 f4210 rfl hhdr8))
      have h4271 : RY T H4233 m (d8 0 3) g8 (H m 32) := (RY_fr w4209 gm f4238 rfl (RY_fr hW gm f4210 rfl h4199))
      have h4272 : RB T H4233 m e8 d8 := (RB_fr w4209 gm f4238 rfl h4229)
      exact WL.loc hX (by simp) (next T H4233 ⟨⟨w4237, g0, gx, gm, go, by omega, by omega⟩, ⟨_, tc, tm, cu, dr, _, _, _, _, _, ce8, q4251, gtc, h4259, q4253, gtm, h4260, q4255, gcu, q4257, gdr, h4261, h4262, h4263, h4264, h4265, hC1, hC2, h4266, h4272, (h4267).1, (h4271).1, hE, hZ, (by omega), (by assumption), (by omega), (by first | assumption | exact SG_0), q4269, gce8, h4258, h4270, a4243, gm⟩, by omega, by omega⟩ (by omega) (by omega))
    · exfalso
      omega
  · refine wl_of hX hb cL_1073 (rw_iconst (pc' := 1074) rfl ?_)
    refine wl_of hX hb cL_1074 (rw_goto (p1 := 1078) (by decide) ?_)
    obtain ⟨B, tc, tm, cu, dr, C8, e8, d8, n8, g8, ce8, e0, gtc, htc, em, gtm, htm, ecu, gcu, edr, gdr, hcu, hdr, hdec, hded, hsp, hC1, hC2, hcu8, hrb8, hcg8, hmn8, hE, hZ, hn8, hXA, hV8, hSG, ece8, gce8, hcen8, hhdr8, hknn8, -⟩ := hXI
    have hN3 := RB_n3 hrb8
    have hE13 : ∀ h : Nat, h < 24 → 0 ≤ e8 13 h ∧ e8 13 h ≤ 100 := fun k hk => by
      obtain ⟨s, h1, h2, h3⟩ := hcu8.1.2.2.1
      exact ⟨(h3 k hk).1, (h3 k hk).2.1⟩
    have hXW := hXA.1
    have hXN := hXA.2
    have hE0 : e8 0 3 = d8 0 3 ∧ e8 0 0 = d8 0 0 := by
      have h := hE 0 (by decide)
      exact ⟨congrFun h 3, congrFun h 0⟩
    have u4273 := CU_k hcu8
    have h4274 : CY T H cu (d8 0 3) g8 (H cu 17) := ⟨hcg8, rfl⟩
    have h4275 : RY T H m (d8 0 3) g8 (H m 32) := ⟨hmn8, rfl⟩
    obtain ⟨t9, ht9⟩ : ∃ t : Int, t = H x 9 := ⟨_, rfl⟩
    obtain ⟨y9, hy9⟩ : ∃ y : Int, y = 1 := ⟨_, rfl⟩
    obtain ⟨r4276, q4277, g4278⟩ := hW.ref gx (t' := 6) (n := 13) (j := 2) (p := 0) (q := 0) rfl (by decide) rfl
    refine wl_of hX hb cL_1078 (xc_V (pc' := 1081) (r := x) (as := [vI (H 0 ((i + 1).toNat)), vI 1]) (st := []) (lm_11_139) rfl rfl (Nat.le_of_ble_eq_true rfl) hW gx sh_1 (by decide) rfl (by decide) (u_117 (e := e8) (d := d8) (n := n8) hW gx ⟨by omega, by omega⟩ ⟨by decide, by decide⟩ ecu gcu q4277 g4278 ece8 gce8 (by assumption) (by assumption) (by omega) (by omega) (by omega) (by omega) hcu8 hcen8 hhdr8) (fun R4279 T4280 H4281 p4282 => ?_))
    obtain ⟨e4283, w4285, f4286, z4287, e4284, b4288, p4289⟩ := p4282
    subst e4283
    subst e4284
    show WL _ _ _ _ 1081 [(4, vI i), (3, .ref o), (2, .ref m), (1, .ref x), (0, .ref 0)] [vI z4287] _ H4281
    refine wl_of hX hb cL_1081 (rw_pop (pc' := 1082) rfl rfl ?_)
    refine wl_of hX hb cL_1082 (rw_aload_n (pc' := 1083) (v := .ref m) rfl rfl rfl ?_)
    refine wl_of hX hb cL_1083 (rw_aload_n (pc' := 1084) (v := .ref 0) rfl rfl rfl ?_)
    refine wl_of hX hb cL_1084 (rw_iload (pc' := 1086) (z := i) rfl rfl ?_)
    refine wl_of hX hb cL_1086 (rw_iconst (pc' := 1087) rfl ?_)
    refine wl_of hX hb cL_1087 (rw_iadd (pc' := 1088) rfl ?_)
    have k4293 : H4281 0 ((i + 1).toNat) = H 0 ((i + 1).toNat) := (f4286 0 ((i + 1).toNat) _ g0 (wmem_s rfl))
    refine wl_of hX hb cL_1088 (xa_I (so := 0) (pc' := 1089) (a := 0) w4285 g0 (wsh_s _) (by omega) (wty_s _ _) (by omega) (by omega) rfl (fun b4291 b4292 => ?_))
    refine wl_of hX hb cL_1089 (rw_aload_n (pc' := 1090) (v := .ref 0) rfl rfl rfl ?_)
    refine wl_of hX hb cL_1090 (rw_iload (pc' := 1092) (z := i) rfl rfl ?_)
    refine wl_of hX hb cL_1092 (rw_iconst (pc' := 1093) rfl ?_)
    refine wl_of hX hb cL_1093 (rw_iadd (pc' := 1094) rfl ?_)
    have k4296 : H4281 0 ((i + 2).toNat) = H 0 ((i + 2).toNat) := (f4286 0 ((i + 2).toNat) _ g0 (wmem_s rfl))
    refine wl_of hX hb cL_1094 (xa_I (so := 0) (pc' := 1095) (a := 0) w4285 g0 (wsh_s _) (by omega) (wty_s _ _) (by omega) (by omega) rfl (fun b4294 b4295 => ?_))
    refine wl_of hX hb cL_1095 (rw_if_eq (p1 := 1102) (p2 := 1098) (by decide) rfl ⟨by omega, by omega⟩ (fun c4297 => ?_) (fun c4297 => ?_))
    · refine wl_of hX hb cL_1102 (rw_iconst (pc' := 1103) rfl ?_)
      have k4298 : wKI H4281 m = wKI H m := (wKI_fr hW gm f4286 rfl)
      have k4299 : H4281 x 9 = H x 9 := (f4286 x 9 _ gx rfl)
      have k4300 : H4281 m 6 = H m 6 := (f4286 m 6 _ gm rfl)
      have k4301 : H4281 x 11 = H x 11 := (f4286 x 11 _ gx rfl)
      have k4302 : H4281 m 13 = H m 13 := (f4286 m 13 _ gm rfl)
      have k4303 : H4281 x 8 = H x 8 := (f4286 x 8 _ gx rfl)
      have k4304 : H4281 m 3 = H m 3 := (f4286 m 3 _ gm rfl)
      rw [show H4281 0 ((i + 1).toNat) = H 0 ((i + 1).toNat) by omega]
      have h4305 : RB T H4281 m e8 d8 := (RB_fr hW gm f4286 rfl hrb8)
      have h4306 : KNN T H4281 m e8 d8 := (KNN_fr hW gm f4286 rfl hknn8)
      refine wl_of hX hb cL_1103 (xc_V (pc' := 1106) (r := m) (as := [vI (H 0 ((i + 1).toNat)), vI 0]) (st := []) (lm_11_142) rfl rfl (Nat.le_of_ble_eq_true rfl) w4285 gm sh_42 (by decide) rfl (by decide) (u_263 (e := e8) (d := d8) w4285 gm ⟨by omega, by omega⟩ ⟨by decide, by decide⟩ (by omega) (by assumption) (by assumption) (by assumption) (by assumption) h4305 h4306) (fun R4307 T4308 H4309 p4310 => ?_))
      obtain ⟨e4311, w4313, f4314, z4315, e4312, b4316, p4317⟩ := p4310
      subst e4311
      subst e4312
      obtain ⟨a4318, a4319⟩ := p4317
      show WL _ _ _ _ 1106 [(4, vI i), (3, .ref o), (2, .ref m), (1, .ref x), (0, .ref 0)] [vI z4315] _ H4309
      refine wl_of hX hb cL_1106 (rw_pop (pc' := 1107) rfl rfl ?_)
      refine wl_of hX hb cL_1107 (rw_goto (p1 := 1654) (by decide) ?_)
      have k4320 : H4309 x 9 = H4281 x 9 := (f4314 x 9 _ gx rfl)
      have k4321 : H4309 m 6 = H4281 m 6 := (f4314 m 6 _ gm rfl)
      have k4322 : H4309 x 11 = H4281 x 11 := (f4314 x 11 _ gx rfl)
      have k4323 : H4309 m 13 = H4281 m 13 := (f4314 m 13 _ gm rfl)
      have k4324 : H4309 x 8 = H4281 x 8 := (f4314 x 8 _ gx rfl)
      have k4325 : H4309 m 3 = H4281 m 3 := (f4314 m 3 _ gm rfl)
      have k4326 : H4309 x 0 = H x 0 := ((f4314 x 0 _ gx rfl).trans (f4286 x 0 _ gx rfl))
      have q4327 : H4309 x 0 = (tc : Int) := k4326.trans e0
      have k4328 : H4309 m 5 = H m 5 := ((f4314 m 5 _ gm rfl).trans (f4286 m 5 _ gm rfl))
      have q4329 : H4309 m 5 = (tm : Int) := k4328.trans em
      have k4330 : H4309 x 6 = H x 6 := ((f4314 x 6 _ gx rfl).trans (f4286 x 6 _ gx rfl))
      have q4331 : H4309 x 6 = (cu : Int) := k4330.trans ecu
      have k4332 : H4309 x 7 = H x 7 := ((f4314 x 7 _ gx rfl).trans (f4286 x 7 _ gx rfl))
      have q4333 : H4309 x 7 = (dr : Int) := k4332.trans edr
      have h4334 : CEN T H4309 ce8 e8 d8 := (CEN_fr w4285 gce8 f4314 rfl p4289)
      have h4335 : TP T H4309 tc B := (TP_fr w4285 gtc f4314 rfl (TP_fr hW gtc f4286 rfl htc))
      have h4336 : TM T H4309 tm B := (TM_fr w4285 gtm f4314 rfl (TM_fr hW gtm f4286 rfl htm))
      have h4337 : DD T H4309 cu  := (DD_fr w4285 gcu f4314 rfl (DD_fr hW gcu f4286 rfl hcu))
      have h4338 : DD T H4309 dr  := (DD_fr w4285 gdr f4314 rfl (DD_fr hW gdr f4286 rfl hdr))
      have h4339 : DE T H4309 cu  := (DE_fr w4285 gcu f4314 rfl (DE_fr hW gcu f4286 rfl hdec))
      have h4340 : DE T H4309 dr  := (DE_fr w4285 gdr f4314 rfl (DE_fr hW gdr f4286 rfl hded))
      have h4341 : SP T H4309 x C8 := (SP_fr w4285 gx f4314 rfl (SP_fr hW gx f4286 rfl hsp))
      have h4342 : CU T H4309 cu e8 d8 n8 := (CU_fr w4285 gcu f4314 rfl (CU_fr hW gcu f4286 rfl hcu8))
      have h4343 : CY T H4309 cu (d8 0 3) g8 (H cu 17) := (CY_fr w4285 gcu f4314 rfl (CY_fr hW gcu f4286 rfl h4274))
      have k4344 : H4309 x 3 = H x 3 := ((f4314 x 3 _ gx rfl).trans (f4286 x 3 _ gx rfl))
      have q4345 : H4309 x 3 = (ce8 : Int) := k4344.trans ece8
      have h4346 : HDR T H4309 ce8  := (HDR_fr w4285 gce8 f4314 rfl (HDR_fr hW gce8 f4286 rfl hhdr8))
      have h4347 : RY T H4309 m (d8 0 3) g8 (H m 32) := (RY_fr w4285 gm f4314 rfl (RY_fr hW gm f4286 rfl h4275))
      have h4348 : RB T H4309 m e8 d8 := (RB_fr w4285 gm f4314 rfl h4305)
      exact WL.loc hX (by simp) (next T H4309 ⟨⟨w4313, g0, gx, gm, go, by omega, by omega⟩, ⟨_, tc, tm, cu, dr, _, _, _, _, _, ce8, q4327, gtc, h4335, q4329, gtm, h4336, q4331, gcu, q4333, gdr, h4337, h4338, h4339, h4340, h4341, hC1, hC2, h4342, h4348, (h4343).1, (h4347).1, hE, hZ, (by omega), (by assumption), (by omega), (by first | assumption | exact SG_0), q4345, gce8, h4334, h4346, a4319, gm⟩, by omega, by omega⟩ (by omega) (by omega))
    · refine wl_of hX hb cL_1098 (rw_iconst (pc' := 1099) rfl ?_)
      refine wl_of hX hb cL_1099 (rw_goto (p1 := 1103) (by decide) ?_)
      have k4349 : wKI H4281 m = wKI H m := (wKI_fr hW gm f4286 rfl)
      have k4350 : H4281 x 9 = H x 9 := (f4286 x 9 _ gx rfl)
      have k4351 : H4281 m 6 = H m 6 := (f4286 m 6 _ gm rfl)
      have k4352 : H4281 x 11 = H x 11 := (f4286 x 11 _ gx rfl)
      have k4353 : H4281 m 13 = H m 13 := (f4286 m 13 _ gm rfl)
      have k4354 : H4281 x 8 = H x 8 := (f4286 x 8 _ gx rfl)
      have k4355 : H4281 m 3 = H m 3 := (f4286 m 3 _ gm rfl)
      rw [show H4281 0 ((i + 1).toNat) = H 0 ((i + 1).toNat) by omega]
      have h4356 : RB T H4281 m e8 d8 := (RB_fr hW gm f4286 rfl hrb8)
      have h4357 : KNN T H4281 m e8 d8 := (KNN_fr hW gm f4286 rfl hknn8)
      refine wl_of hX hb cL_1103 (xc_V (pc' := 1106) (r := m) (as := [vI (H 0 ((i + 1).toNat)), vI 1]) (st := []) (lm_11_142) rfl rfl (Nat.le_of_ble_eq_true rfl) w4285 gm sh_42 (by decide) rfl (by decide) (u_263 (e := e8) (d := d8) w4285 gm ⟨by omega, by omega⟩ ⟨by decide, by decide⟩ (by omega) (by assumption) (by assumption) (by assumption) (by assumption) h4356 h4357) (fun R4358 T4359 H4360 p4361 => ?_))
      obtain ⟨e4362, w4364, f4365, z4366, e4363, b4367, p4368⟩ := p4361
      subst e4362
      subst e4363
      obtain ⟨a4369, a4370⟩ := p4368
      show WL _ _ _ _ 1106 [(4, vI i), (3, .ref o), (2, .ref m), (1, .ref x), (0, .ref 0)] [vI z4366] _ H4360
      refine wl_of hX hb cL_1106 (rw_pop (pc' := 1107) rfl rfl ?_)
      refine wl_of hX hb cL_1107 (rw_goto (p1 := 1654) (by decide) ?_)
      have k4371 : H4360 x 9 = H4281 x 9 := (f4365 x 9 _ gx rfl)
      have k4372 : H4360 m 6 = H4281 m 6 := (f4365 m 6 _ gm rfl)
      have k4373 : H4360 x 11 = H4281 x 11 := (f4365 x 11 _ gx rfl)
      have k4374 : H4360 m 13 = H4281 m 13 := (f4365 m 13 _ gm rfl)
      have k4375 : H4360 x 8 = H4281 x 8 := (f4365 x 8 _ gx rfl)
      have k4376 : H4360 m 3 = H4281 m 3 := (f4365 m 3 _ gm rfl)
      have k4377 : H4360 x 0 = H x 0 := ((f4365 x 0 _ gx rfl).trans (f4286 x 0 _ gx rfl))
      have q4378 : H4360 x 0 = (tc : Int) := k4377.trans e0
      have k4379 : H4360 m 5 = H m 5 := ((f4365 m 5 _ gm rfl).trans (f4286 m 5 _ gm rfl))
      have q4380 : H4360 m 5 = (tm : Int) := k4379.trans em
      have k4381 : H4360 x 6 = H x 6 := ((f4365 x 6 _ gx rfl).trans (f4286 x 6 _ gx rfl))
      have q4382 : H4360 x 6 = (cu : Int) := k4381.trans ecu
      have k4383 : H4360 x 7 = H x 7 := ((f4365 x 7 _ gx rfl).trans (f4286 x 7 _ gx rfl))
      have q4384 : H4360 x 7 = (dr : Int) := k4383.trans edr
      have h4385 : CEN T H4360 ce8 e8 d8 := (CEN_fr w4285 gce8 f4365 rfl p4289)
      have h4386 : TP T H4360 tc B := (TP_fr w4285 gtc f4365 rfl (TP_fr hW gtc f4286 rfl htc))
      have h4387 : TM T H4360 tm B := (TM_fr w4285 gtm f4365 rfl (TM_fr hW gtm f4286 rfl htm))
      have h4388 : DD T H4360 cu  := (DD_fr w4285 gcu f4365 rfl (DD_fr hW gcu f4286 rfl hcu))
      have h4389 : DD T H4360 dr  := (DD_fr w4285 gdr f4365 rfl (DD_fr hW gdr f4286 rfl hdr))
      have h4390 : DE T H4360 cu  := (DE_fr w4285 gcu f4365 rfl (DE_fr hW gcu f4286 rfl hdec))
      have h4391 : DE T H4360 dr  := (DE_fr w4285 gdr f4365 rfl (DE_fr hW gdr f4286 rfl hded))
      have h4392 : SP T H4360 x C8 := (SP_fr w4285 gx f4365 rfl (SP_fr hW gx f4286 rfl hsp))
      have h4393 : CU T H4360 cu e8 d8 n8 := (CU_fr w4285 gcu f4365 rfl (CU_fr hW gcu f4286 rfl hcu8))
      have h4394 : CY T H4360 cu (d8 0 3) g8 (H cu 17) := (CY_fr w4285 gcu f4365 rfl (CY_fr hW gcu f4286 rfl h4274))
      have k4395 : H4360 x 3 = H x 3 := ((f4365 x 3 _ gx rfl).trans (f4286 x 3 _ gx rfl))
      have q4396 : H4360 x 3 = (ce8 : Int) := k4395.trans ece8
      have h4397 : HDR T H4360 ce8  := (HDR_fr w4285 gce8 f4365 rfl (HDR_fr hW gce8 f4286 rfl hhdr8))
      have h4398 : RY T H4360 m (d8 0 3) g8 (H m 32) := (RY_fr w4285 gm f4365 rfl (RY_fr hW gm f4286 rfl h4275))
      have h4399 : RB T H4360 m e8 d8 := (RB_fr w4285 gm f4365 rfl h4356)
      exact WL.loc hX (by simp) (next T H4360 ⟨⟨w4364, g0, gx, gm, go, by omega, by omega⟩, ⟨_, tc, tm, cu, dr, _, _, _, _, _, ce8, q4378, gtc, h4386, q4380, gtm, h4387, q4382, gcu, q4384, gdr, h4388, h4389, h4390, h4391, h4392, hC1, hC2, h4393, h4399, (h4394).1, (h4398).1, hE, hZ, (by omega), (by assumption), (by omega), (by first | assumption | exact SG_0), q4396, gce8, h4385, h4397, a4370, gm⟩, by omega, by omega⟩ (by omega) (by omega))
