/-! THE LAW, GONE ON WITH (own work) -/
set_option maxHeartbeats 4000000 in
theorem wl_c22 {kt : Nat → Option mc_E} {CB SB : Nat} {X : mc_S → Prop} {T : wq_T} {H : wq_H} {Len x m o : Nat} {i : Int} (hX : wlX kt CB SB X) (hb : T.2.1 ≤ CB ∧ T.2.2.1 ≤ SB) (hI : wlJ Len x m o T H) (hL : Len ≤ 3072) (hi : 0 ≤ i ∧ i + 6 ≤ Len) (hb2 : T.2.1 + 20 ≤ CB ∧ T.2.2.1 + 500 ≤ SB)  (next : ∀ T' H', wlJ Len x m o T' H' → T'.2.1 ≤ T.2.1 + 20 → T'.2.2.1 ≤ T.2.2.1 + 500 → WL kt CB SB X 1653 (wlL i x m o) [] T' H') : WL kt CB SB X 882 (wlL i x m o) [] T H := by
  obtain ⟨⟨hW, g0, gx, gm, go, hK, hr⟩, hXI, hY1, hY2⟩ := hI
  refine wl_of hX hb cL_882 (rw_aload_n (pc' := 883) (v := .ref x) rfl rfl rfl ?_)
  refine wl_of hX hb cL_883 (rw_aload_n (pc' := 884) (v := .ref 0) rfl rfl rfl ?_)
  refine wl_of hX hb cL_884 (rw_iload (pc' := 886) (z := i) rfl rfl ?_)
  refine wl_of hX hb cL_886 (rw_iconst (pc' := 887) rfl ?_)
  refine wl_of hX hb cL_887 (rw_iadd (pc' := 888) rfl ?_)
  refine wl_of hX hb cL_888 (xa_I (so := 0) (pc' := 889) (a := 0) hW g0 (wsh_s _) (by omega) (wty_s _ _) (by omega) (by omega) rfl (fun b3547 b3548 => ?_))
  refine wl_of hX hb cL_889 (rw_aload_n (pc' := 890) (v := .ref 0) rfl rfl rfl ?_)
  refine wl_of hX hb cL_890 (rw_iload (pc' := 892) (z := i) rfl rfl ?_)
  refine wl_of hX hb cL_892 (rw_iconst (pc' := 893) rfl ?_)
  refine wl_of hX hb cL_893 (rw_iadd (pc' := 894) rfl ?_)
  refine wl_of hX hb cL_894 (xa_I (so := 0) (pc' := 895) (a := 0) hW g0 (wsh_s _) (by omega) (wty_s _ _) (by omega) (by omega) rfl (fun b3549 b3550 => ?_))
  obtain ⟨B, tc, tm, cu, dr, C8, e8, d8, n8, g8, ce8, e0, gtc, htc, em, gtm, htm, ecu, gcu, edr, gdr, hcu, hdr, hdec, hded, hsp, hC1, hC2, hcu8, hrb8, hcg8, hmn8, hE, hZ, hn8, hXA, hV8, hSG, ece8, gce8, hcen8, hhdr8, hknn8, -⟩ := hXI
  have hN3 := RB_n3 hrb8
  have hE13 : ∀ h : Nat, h < 24 → 0 ≤ e8 13 h ∧ e8 13 h ≤ 100 := fun k hk => by
    obtain ⟨s, h1, h2, h3⟩ := hcu8.1.2.2.1
    exact ⟨(h3 k hk).1, (h3 k hk).2.1⟩
  have hXW := hXA.1
  have hXN := hXA.2
  have hE0 : e8 0 3 = d8 0 3 ∧ e8 0 0 = d8 0 0 := by
    have h := hE 0 (by decide)
    exact ⟨congrFun h 3, congrFun h 0⟩
  have u3551 := CU_k hcu8
  have h3552 : CY T H cu (d8 0 3) g8 (H cu 17) := ⟨hcg8, rfl⟩
  have h3553 : RY T H m (d8 0 3) g8 (H m 32) := ⟨hmn8, rfl⟩
  obtain ⟨t9, ht9⟩ : ∃ t : Int, t = H x 9 := ⟨_, rfl⟩
  obtain ⟨y9, hy9⟩ : ∃ y : Int, y = H 0 ((i + 2).toNat) := ⟨_, rfl⟩
  obtain ⟨r3554, q3555, g3556⟩ := hW.ref gx (t' := 6) (n := 13) (j := 2) (p := 0) (q := 0) rfl (by decide) rfl
  refine wl_of hX hb cL_895 (xc_V (pc' := 898) (r := x) (as := [vI (H 0 ((i + 1).toNat)), vI (H 0 ((i + 2).toNat))]) (st := []) (lm_11_114) rfl rfl (Nat.le_of_ble_eq_true rfl) hW gx sh_1 (by decide) rfl (by decide) (u_105 (e := e8) (d := d8) (n := n8) hW gx ⟨by omega, by omega⟩ ⟨by omega, by omega⟩ ecu gcu q3555 g3556 ece8 gce8 (by assumption) (by assumption) (by omega) (by omega) (by omega) (by omega) hcu8 hcen8 hhdr8) (fun R3557 T3558 H3559 p3560 => ?_))
  obtain ⟨e3561, w3563, f3564, z3565, e3562, b3566, p3567⟩ := p3560
  subst e3561
  subst e3562
  show WL _ _ _ _ 898 [(4, vI i), (3, .ref o), (2, .ref m), (1, .ref x), (0, .ref 0)] [vI z3565] _ H3559
  refine wl_of hX hb cL_898 (rw_pop (pc' := 899) rfl rfl ?_)
  refine wl_of hX hb cL_899 (rw_aload_n (pc' := 900) (v := .ref m) rfl rfl rfl ?_)
  refine wl_of hX hb cL_900 (rw_aload_n (pc' := 901) (v := .ref 0) rfl rfl rfl ?_)
  refine wl_of hX hb cL_901 (rw_iload (pc' := 903) (z := i) rfl rfl ?_)
  refine wl_of hX hb cL_903 (rw_iconst (pc' := 904) rfl ?_)
  refine wl_of hX hb cL_904 (rw_iadd (pc' := 905) rfl ?_)
  have k3571 : H3559 0 ((i + 1).toNat) = H 0 ((i + 1).toNat) := (f3564 0 ((i + 1).toNat) _ g0 (wmem_s rfl))
  refine wl_of hX hb cL_905 (xa_I (so := 0) (pc' := 906) (a := 0) w3563 g0 (wsh_s _) (by omega) (wty_s _ _) (by omega) (by omega) rfl (fun b3569 b3570 => ?_))
  refine wl_of hX hb cL_906 (rw_aload_n (pc' := 907) (v := .ref 0) rfl rfl rfl ?_)
  refine wl_of hX hb cL_907 (rw_iload (pc' := 909) (z := i) rfl rfl ?_)
  refine wl_of hX hb cL_909 (rw_iconst (pc' := 910) rfl ?_)
  refine wl_of hX hb cL_910 (rw_iadd (pc' := 911) rfl ?_)
  have k3574 : H3559 0 ((i + 2).toNat) = H 0 ((i + 2).toNat) := (f3564 0 ((i + 2).toNat) _ g0 (wmem_s rfl))
  refine wl_of hX hb cL_911 (xa_I (so := 0) (pc' := 912) (a := 0) w3563 g0 (wsh_s _) (by omega) (wty_s _ _) (by omega) (by omega) rfl (fun b3572 b3573 => ?_))
  have k3575 : wKI H3559 m = wKI H m := (wKI_fr hW gm f3564 rfl)
  have k3576 : H3559 x 9 = H x 9 := (f3564 x 9 _ gx rfl)
  have k3577 : H3559 m 6 = H m 6 := (f3564 m 6 _ gm rfl)
  have k3578 : H3559 x 11 = H x 11 := (f3564 x 11 _ gx rfl)
  have k3579 : H3559 m 13 = H m 13 := (f3564 m 13 _ gm rfl)
  have k3580 : H3559 x 8 = H x 8 := (f3564 x 8 _ gx rfl)
  have k3581 : H3559 m 3 = H m 3 := (f3564 m 3 _ gm rfl)
  rw [show H3559 0 ((i + 2).toNat) = H 0 ((i + 2).toNat) by omega]
  rw [show H3559 0 ((i + 1).toNat) = H 0 ((i + 1).toNat) by omega]
  have h3582 : RB T H3559 m e8 d8 := (RB_fr hW gm f3564 rfl hrb8)
  have h3583 : KNN T H3559 m e8 d8 := (KNN_fr hW gm f3564 rfl hknn8)
  refine wl_of hX hb cL_912 (xc_V (pc' := 915) (r := m) (as := [vI (H 0 ((i + 1).toNat)), vI (H 0 ((i + 2).toNat))]) (st := []) (lm_11_117) rfl rfl (Nat.le_of_ble_eq_true rfl) w3563 gm sh_42 (by decide) rfl (by decide) (u_255 (e := e8) (d := d8) w3563 gm ⟨by omega, by omega⟩ ⟨by omega, by omega⟩ (by omega) (by assumption) (by assumption) (by assumption) (by assumption) h3582 h3583) (fun R3584 T3585 H3586 p3587 => ?_))
  obtain ⟨e3588, w3590, f3591, z3592, e3589, b3593, p3594⟩ := p3587
  subst e3588
  subst e3589
  obtain ⟨a3595, a3596⟩ := p3594
  show WL _ _ _ _ 915 [(4, vI i), (3, .ref o), (2, .ref m), (1, .ref x), (0, .ref 0)] [vI z3592] _ H3586
  refine wl_of hX hb cL_915 (rw_pop (pc' := 916) rfl rfl ?_)
  refine wl_of hX hb cL_916 (rw_goto (p1 := 1653) (by decide) ?_)
  have k3597 : H3586 x 9 = H3559 x 9 := (f3591 x 9 _ gx rfl)
  have k3598 : H3586 m 6 = H3559 m 6 := (f3591 m 6 _ gm rfl)
  have k3599 : H3586 x 11 = H3559 x 11 := (f3591 x 11 _ gx rfl)
  have k3600 : H3586 m 13 = H3559 m 13 := (f3591 m 13 _ gm rfl)
  have k3601 : H3586 x 8 = H3559 x 8 := (f3591 x 8 _ gx rfl)
  have k3602 : H3586 m 3 = H3559 m 3 := (f3591 m 3 _ gm rfl)
  have k3603 : H3586 x 0 = H x 0 := ((f3591 x 0 _ gx rfl).trans (f3564 x 0 _ gx rfl))
  have q3604 : H3586 x 0 = (tc : Int) := k3603.trans e0
  have k3605 : H3586 m 5 = H m 5 := ((f3591 m 5 _ gm rfl).trans (f3564 m 5 _ gm rfl))
  have q3606 : H3586 m 5 = (tm : Int) := k3605.trans em
  have k3607 : H3586 x 6 = H x 6 := ((f3591 x 6 _ gx rfl).trans (f3564 x 6 _ gx rfl))
  have q3608 : H3586 x 6 = (cu : Int) := k3607.trans ecu
  have k3609 : H3586 x 7 = H x 7 := ((f3591 x 7 _ gx rfl).trans (f3564 x 7 _ gx rfl))
  have q3610 : H3586 x 7 = (dr : Int) := k3609.trans edr
  have h3611 : CEN T H3586 ce8 e8 d8 := (CEN_fr w3563 gce8 f3591 rfl p3567)
  have h3612 : TP T H3586 tc B := (TP_fr w3563 gtc f3591 rfl (TP_fr hW gtc f3564 rfl htc))
  have h3613 : TM T H3586 tm B := (TM_fr w3563 gtm f3591 rfl (TM_fr hW gtm f3564 rfl htm))
  have h3614 : DD T H3586 cu  := (DD_fr w3563 gcu f3591 rfl (DD_fr hW gcu f3564 rfl hcu))
  have h3615 : DD T H3586 dr  := (DD_fr w3563 gdr f3591 rfl (DD_fr hW gdr f3564 rfl hdr))
  have h3616 : DE T H3586 cu  := (DE_fr w3563 gcu f3591 rfl (DE_fr hW gcu f3564 rfl hdec))
  have h3617 : DE T H3586 dr  := (DE_fr w3563 gdr f3591 rfl (DE_fr hW gdr f3564 rfl hded))
  have h3618 : SP T H3586 x C8 := (SP_fr w3563 gx f3591 rfl (SP_fr hW gx f3564 rfl hsp))
  have h3619 : CU T H3586 cu e8 d8 n8 := (CU_fr w3563 gcu f3591 rfl (CU_fr hW gcu f3564 rfl hcu8))
  have h3620 : CY T H3586 cu (d8 0 3) g8 (H cu 17) := (CY_fr w3563 gcu f3591 rfl (CY_fr hW gcu f3564 rfl h3552))
  have k3621 : H3586 x 3 = H x 3 := ((f3591 x 3 _ gx rfl).trans (f3564 x 3 _ gx rfl))
  have q3622 : H3586 x 3 = (ce8 : Int) := k3621.trans ece8
  have h3623 : HDR T H3586 ce8  := (HDR_fr w3563 gce8 f3591 rfl (HDR_fr hW gce8 f3564 rfl hhdr8))
  have h3624 : RY T H3586 m (d8 0 3) g8 (H m 32) := (RY_fr w3563 gm f3591 rfl (RY_fr hW gm f3564 rfl h3553))
  have h3625 : RB T H3586 m e8 d8 := (RB_fr w3563 gm f3591 rfl h3582)
  exact WL.loc hX (by simp) (next T H3586 ⟨⟨w3590, g0, gx, gm, go, by omega, by omega⟩, ⟨_, tc, tm, cu, dr, _, _, _, _, _, ce8, q3604, gtc, h3612, q3606, gtm, h3613, q3608, gcu, q3610, gdr, h3614, h3615, h3616, h3617, h3618, hC1, hC2, h3619, h3625, (h3620).1, (h3624).1, hE, hZ, (by omega), (by assumption), (by omega), (by first | assumption | exact SG_0), q3622, gce8, h3611, h3623, a3596, gm⟩, by omega, by omega⟩ (by omega) (by omega))
set_option maxHeartbeats 4000000 in
theorem wl_c23 {kt : Nat → Option mc_E} {CB SB : Nat} {X : mc_S → Prop} {T : wq_T} {H : wq_H} {Len x m o : Nat} {i : Int} (hX : wlX kt CB SB X) (hb : T.2.1 ≤ CB ∧ T.2.2.1 ≤ SB) (hI : wlJ Len x m o T H) (hL : Len ≤ 3072) (hi : 0 ≤ i ∧ i + 6 ≤ Len) (hb2 : T.2.1 + 20 ≤ CB ∧ T.2.2.1 + 500 ≤ SB)  (next : ∀ T' H', wlJ Len x m o T' H' → T'.2.1 ≤ T.2.1 + 20 → T'.2.2.1 ≤ T.2.2.1 + 500 → WL kt CB SB X 1653 (wlL i x m o) [] T' H') : WL kt CB SB X 919 (wlL i x m o) [] T H := by
  obtain ⟨⟨hW, g0, gx, gm, go, hK, hr⟩, hXI, hY1, hY2⟩ := hI
  refine wl_of hX hb cL_919 (rw_aload_n (pc' := 920) (v := .ref x) rfl rfl rfl ?_)
  refine wl_of hX hb cL_920 (rw_aload_n (pc' := 921) (v := .ref 0) rfl rfl rfl ?_)
  refine wl_of hX hb cL_921 (rw_iload (pc' := 923) (z := i) rfl rfl ?_)
  refine wl_of hX hb cL_923 (rw_iconst (pc' := 924) rfl ?_)
  refine wl_of hX hb cL_924 (rw_iadd (pc' := 925) rfl ?_)
  refine wl_of hX hb cL_925 (xa_I (so := 0) (pc' := 926) (a := 0) hW g0 (wsh_s _) (by omega) (wty_s _ _) (by omega) (by omega) rfl (fun b3626 b3627 => ?_))
  obtain ⟨B, tc, tm, cu, dr, C8, e8, d8, n8, g8, ce8, e0, gtc, htc, em, gtm, htm, ecu, gcu, edr, gdr, hcu, hdr, hdec, hded, hsp, hC1, hC2, hcu8, hrb8, hcg8, hmn8, hE, hZ, hn8, hXA, hV8, hSG, ece8, gce8, hcen8, hhdr8, hknn8, -⟩ := hXI
  have hN3 := RB_n3 hrb8
  have hE13 : ∀ h : Nat, h < 24 → 0 ≤ e8 13 h ∧ e8 13 h ≤ 100 := fun k hk => by
    obtain ⟨s, h1, h2, h3⟩ := hcu8.1.2.2.1
    exact ⟨(h3 k hk).1, (h3 k hk).2.1⟩
  have hXW := hXA.1
  have hXN := hXA.2
  have hE0 : e8 0 3 = d8 0 3 ∧ e8 0 0 = d8 0 0 := by
    have h := hE 0 (by decide)
    exact ⟨congrFun h 3, congrFun h 0⟩
  have u3628 := CU_k hcu8
  have h3629 : CY T H cu (d8 0 3) g8 (H cu 17) := ⟨hcg8, rfl⟩
  have h3630 : RY T H m (d8 0 3) g8 (H m 32) := ⟨hmn8, rfl⟩
  obtain ⟨t9, ht9⟩ : ∃ t : Int, t = H x 9 := ⟨_, rfl⟩
  obtain ⟨y9, hy9⟩ : ∃ y : Int, y = H 0 ((i + 1).toNat) := ⟨_, rfl⟩
  obtain ⟨r3631, q3632, g3633⟩ := hW.ref gx (t' := 6) (n := 13) (j := 2) (p := 0) (q := 0) rfl (by decide) rfl
  refine wl_of hX hb cL_926 (xc_V (pc' := 929) (r := x) (as := [vI (H 0 ((i + 1).toNat))]) (st := []) (lm_11_118) rfl rfl (Nat.le_of_ble_eq_true rfl) hW gx sh_1 (by decide) rfl (by decide) (u_107 (e := e8) (d := d8) (n := n8) hW gx ⟨by omega, by omega⟩ ecu gcu q3632 g3633 ece8 gce8 (by assumption) (by assumption) (by omega) (by omega) (by omega) (by omega) hcu8 hcen8 hhdr8) (fun R3634 T3635 H3636 p3637 => ?_))
  obtain ⟨e3638, w3640, f3641, z3642, e3639, b3643, p3644⟩ := p3637
  subst e3638
  subst e3639
  show WL _ _ _ _ 929 [(4, vI i), (3, .ref o), (2, .ref m), (1, .ref x), (0, .ref 0)] [vI z3642] _ H3636
  refine wl_of hX hb cL_929 (rw_pop (pc' := 930) rfl rfl ?_)
  refine wl_of hX hb cL_930 (rw_aload_n (pc' := 931) (v := .ref m) rfl rfl rfl ?_)
  refine wl_of hX hb cL_931 (rw_aload_n (pc' := 932) (v := .ref 0) rfl rfl rfl ?_)
  refine wl_of hX hb cL_932 (rw_iload (pc' := 934) (z := i) rfl rfl ?_)
  refine wl_of hX hb cL_934 (rw_iconst (pc' := 935) rfl ?_)
  refine wl_of hX hb cL_935 (rw_iadd (pc' := 936) rfl ?_)
  have k3648 : H3636 0 ((i + 1).toNat) = H 0 ((i + 1).toNat) := (f3641 0 ((i + 1).toNat) _ g0 (wmem_s rfl))
  refine wl_of hX hb cL_936 (xa_I (so := 0) (pc' := 937) (a := 0) w3640 g0 (wsh_s _) (by omega) (wty_s _ _) (by omega) (by omega) rfl (fun b3646 b3647 => ?_))
  have k3649 : wKI H3636 m = wKI H m := (wKI_fr hW gm f3641 rfl)
  have k3650 : H3636 x 9 = H x 9 := (f3641 x 9 _ gx rfl)
  have k3651 : H3636 m 6 = H m 6 := (f3641 m 6 _ gm rfl)
  have k3652 : H3636 x 11 = H x 11 := (f3641 x 11 _ gx rfl)
  have k3653 : H3636 m 13 = H m 13 := (f3641 m 13 _ gm rfl)
  have k3654 : H3636 x 8 = H x 8 := (f3641 x 8 _ gx rfl)
  have k3655 : H3636 m 3 = H m 3 := (f3641 m 3 _ gm rfl)
  rw [show H3636 0 ((i + 1).toNat) = H 0 ((i + 1).toNat) by omega]
  have h3656 : RB T H3636 m e8 d8 := (RB_fr hW gm f3641 rfl hrb8)
  have h3657 : KNN T H3636 m e8 d8 := (KNN_fr hW gm f3641 rfl hknn8)
  refine wl_of hX hb cL_937 (xc_V (pc' := 940) (r := m) (as := [vI (H 0 ((i + 1).toNat))]) (st := []) (lm_11_121) rfl rfl (Nat.le_of_ble_eq_true rfl) w3640 gm sh_42 (by decide) rfl (by decide) (u_256 (e := e8) (d := d8) w3640 gm ⟨by omega, by omega⟩ (by omega) (by assumption) (by assumption) (by assumption) (by assumption) h3656 h3657) (fun R3658 T3659 H3660 p3661 => ?_))
  obtain ⟨e3662, w3664, f3665, z3666, e3663, b3667, p3668⟩ := p3661
  subst e3662
  subst e3663
  obtain ⟨a3669, a3670⟩ := p3668
  show WL _ _ _ _ 940 [(4, vI i), (3, .ref o), (2, .ref m), (1, .ref x), (0, .ref 0)] [vI z3666] _ H3660
  refine wl_of hX hb cL_940 (rw_pop (pc' := 941) rfl rfl ?_)
  refine wl_of hX hb cL_941 (rw_goto (p1 := 1653) (by decide) ?_)
  have k3671 : H3660 x 9 = H3636 x 9 := (f3665 x 9 _ gx rfl)
  have k3672 : H3660 m 6 = H3636 m 6 := (f3665 m 6 _ gm rfl)
  have k3673 : H3660 x 11 = H3636 x 11 := (f3665 x 11 _ gx rfl)
  have k3674 : H3660 m 13 = H3636 m 13 := (f3665 m 13 _ gm rfl)
  have k3675 : H3660 x 8 = H3636 x 8 := (f3665 x 8 _ gx rfl)
  have k3676 : H3660 m 3 = H3636 m 3 := (f3665 m 3 _ gm rfl)
  have k3677 : H3660 x 0 = H x 0 := ((f3665 x 0 _ gx rfl).trans (f3641 x 0 _ gx rfl))
  have q3678 : H3660 x 0 = (tc : Int) := k3677.trans e0
  have k3679 : H3660 m 5 = H m 5 := ((f3665 m 5 _ gm rfl).trans (f3641 m 5 _ gm rfl))
  have q3680 : H3660 m 5 = (tm : Int) := k3679.trans em
  have k3681 : H3660 x 6 = H x 6 := ((f3665 x 6 _ gx rfl).trans (f3641 x 6 _ gx rfl))
  have q3682 : H3660 x 6 = (cu : Int) := k3681.trans ecu
  have k3683 : H3660 x 7 = H x 7 := ((f3665 x 7 _ gx rfl).trans (f3641 x 7 _ gx rfl))
  have q3684 : H3660 x 7 = (dr : Int) := k3683.trans edr
  have h3685 : CEN T H3660 ce8 e8 d8 := (CEN_fr w3640 gce8 f3665 rfl p3644)
  have h3686 : TP T H3660 tc B := (TP_fr w3640 gtc f3665 rfl (TP_fr hW gtc f3641 rfl htc))
  have h3687 : TM T H3660 tm B := (TM_fr w3640 gtm f3665 rfl (TM_fr hW gtm f3641 rfl htm))
  have h3688 : DD T H3660 cu  := (DD_fr w3640 gcu f3665 rfl (DD_fr hW gcu f3641 rfl hcu))
  have h3689 : DD T H3660 dr  := (DD_fr w3640 gdr f3665 rfl (DD_fr hW gdr f3641 rfl hdr))
  have h3690 : DE T H3660 cu  := (DE_fr w3640 gcu f3665 rfl (DE_fr hW gcu f3641 rfl hdec))
  have h3691 : DE T H3660 dr  := (DE_fr w3640 gdr f3665 rfl (DE_fr hW gdr f3641 rfl hded))
  have h3692 : SP T H3660 x C8 := (SP_fr w3640 gx f3665 rfl (SP_fr hW gx f3641 rfl hsp))
  have h3693 : CU T H3660 cu e8 d8 n8 := (CU_fr w3640 gcu f3665 rfl (CU_fr hW gcu f3641 rfl hcu8))
  have h3694 : CY T H3660 cu (d8 0 3) g8 (H cu 17) := (CY_fr w3640 gcu f3665 rfl (CY_fr hW gcu f3641 rfl h3629))
  have k3695 : H3660 x 3 = H x 3 := ((f3665 x 3 _ gx rfl).trans (f3641 x 3 _ gx rfl))
  have q3696 : H3660 x 3 = (ce8 : Int) := k3695.trans ece8
  have h3697 : HDR T H3660 ce8  := (HDR_fr w3640 gce8 f3665 rfl (HDR_fr hW gce8 f3641 rfl hhdr8))
  have h3698 : RY T H3660 m (d8 0 3) g8 (H m 32) := (RY_fr w3640 gm f3665 rfl (RY_fr hW gm f3641 rfl h3630))
  have h3699 : RB T H3660 m e8 d8 := (RB_fr w3640 gm f3665 rfl h3656)
  exact WL.loc hX (by simp) (next T H3660 ⟨⟨w3664, g0, gx, gm, go, by omega, by omega⟩, ⟨_, tc, tm, cu, dr, _, _, _, _, _, ce8, q3678, gtc, h3686, q3680, gtm, h3687, q3682, gcu, q3684, gdr, h3688, h3689, h3690, h3691, h3692, hC1, hC2, h3693, h3699, (h3694).1, (h3698).1, hE, hZ, (by omega), (by assumption), (by omega), (by first | assumption | exact SG_0), q3696, gce8, h3685, h3697, a3670, gm⟩, by omega, by omega⟩ (by omega) (by omega))
set_option maxHeartbeats 4000000 in
theorem wl_c24 {kt : Nat → Option mc_E} {CB SB : Nat} {X : mc_S → Prop} {T : wq_T} {H : wq_H} {Len x m o : Nat} {i : Int} (hX : wlX kt CB SB X) (hb : T.2.1 ≤ CB ∧ T.2.2.1 ≤ SB) (hI : wlJ Len x m o T H) (hL : Len ≤ 3072) (hi : 0 ≤ i ∧ i + 6 ≤ Len) (hb2 : T.2.1 + 20 ≤ CB ∧ T.2.2.1 + 500 ≤ SB)  (next : ∀ T' H', wlJ Len x m o T' H' → T'.2.1 ≤ T.2.1 + 20 → T'.2.2.1 ≤ T.2.2.1 + 500 → WL kt CB SB X 1653 (wlL i x m o) [] T' H') : WL kt CB SB X 944 (wlL i x m o) [] T H := by
  obtain ⟨⟨hW, g0, gx, gm, go, hK, hr⟩, hXI, hY1, hY2⟩ := hI
  refine wl_of hX hb cL_944 (rw_aload_n (pc' := 945) (v := .ref x) rfl rfl rfl ?_)
  obtain ⟨B, tc, tm, cu, dr, C8, e8, d8, n8, g8, ce8, e0, gtc, htc, em, gtm, htm, ecu, gcu, edr, gdr, hcu, hdr, hdec, hded, hsp, hC1, hC2, hcu8, hrb8, hcg8, hmn8, hE, hZ, hn8, hXA, hV8, hSG, ece8, gce8, hcen8, hhdr8, hknn8, -⟩ := hXI
  have hN3 := RB_n3 hrb8
  have hE13 : ∀ h : Nat, h < 24 → 0 ≤ e8 13 h ∧ e8 13 h ≤ 100 := fun k hk => by
    obtain ⟨s, h1, h2, h3⟩ := hcu8.1.2.2.1
    exact ⟨(h3 k hk).1, (h3 k hk).2.1⟩
  have hXW := hXA.1
  have hXN := hXA.2
  have hE0 : e8 0 3 = d8 0 3 ∧ e8 0 0 = d8 0 0 := by
    have h := hE 0 (by decide)
    exact ⟨congrFun h 3, congrFun h 0⟩
  have u3700 := CU_k hcu8
  have h3701 : CY T H cu (d8 0 3) g8 (H cu 17) := ⟨hcg8, rfl⟩
  have h3702 : RY T H m (d8 0 3) g8 (H m 32) := ⟨hmn8, rfl⟩
  obtain ⟨t9, ht9⟩ : ∃ t : Int, t = H x 9 := ⟨_, rfl⟩
  obtain ⟨r3703, q3704, g3705⟩ := hW.ref gx (t' := 6) (n := 13) (j := 2) (p := 0) (q := 0) rfl (by decide) rfl
  refine wl_of hX hb cL_945 (xc_V (pc' := 948) (r := x) (as := []) (st := []) (lm_11_122) rfl rfl (Nat.le_of_ble_eq_true rfl) hW gx sh_1 (by decide) rfl (by decide) (u_108 (e := e8) (d := d8) (n := n8) hW gx ecu gcu q3704 g3705 ece8 gce8 (by assumption) (by assumption) (by omega) (by omega) (by omega) (by omega) hcu8 hcen8 hhdr8) (fun R3706 T3707 H3708 p3709 => ?_))
  obtain ⟨e3710, w3712, f3713, z3714, e3711, b3715, p3716⟩ := p3709
  subst e3710
  subst e3711
  show WL _ _ _ _ 948 [(4, vI i), (3, .ref o), (2, .ref m), (1, .ref x), (0, .ref 0)] [vL z3714] _ H3708
  refine wl_of hX hb cL_948 (rw_pop2 (pc' := 949) rfl rfl ?_)
  refine wl_of hX hb cL_949 (rw_aload_n (pc' := 950) (v := .ref m) rfl rfl rfl ?_)
  have k3718 : wKI H3708 m = wKI H m := (wKI_fr hW gm f3713 rfl)
  have k3719 : H3708 x 9 = H x 9 := (f3713 x 9 _ gx rfl)
  have k3720 : H3708 m 6 = H m 6 := (f3713 m 6 _ gm rfl)
  have k3721 : H3708 x 11 = H x 11 := (f3713 x 11 _ gx rfl)
  have k3722 : H3708 m 13 = H m 13 := (f3713 m 13 _ gm rfl)
  have k3723 : H3708 x 8 = H x 8 := (f3713 x 8 _ gx rfl)
  have k3724 : H3708 m 3 = H m 3 := (f3713 m 3 _ gm rfl)
  have h3725 : RB T H3708 m e8 d8 := (RB_fr hW gm f3713 rfl hrb8)
  have h3726 : KNN T H3708 m e8 d8 := (KNN_fr hW gm f3713 rfl hknn8)
  refine wl_of hX hb cL_950 (xc_V (pc' := 953) (r := m) (as := []) (st := []) (lm_11_125) rfl rfl (Nat.le_of_ble_eq_true rfl) w3712 gm sh_42 (by decide) rfl (by decide) (u_258 (e := e8) (d := d8) w3712 gm (by omega) (by assumption) (by assumption) (by assumption) (by assumption) h3725 h3726) (fun R3727 T3728 H3729 p3730 => ?_))
  obtain ⟨e3731, w3733, f3734, z3735, e3732, b3736, p3737⟩ := p3730
  subst e3731
  subst e3732
  obtain ⟨a3738, a3739⟩ := p3737
  show WL _ _ _ _ 953 [(4, vI i), (3, .ref o), (2, .ref m), (1, .ref x), (0, .ref 0)] [vL z3735] _ H3729
  refine wl_of hX hb cL_953 (rw_pop2 (pc' := 954) rfl rfl ?_)
  refine wl_of hX hb cL_954 (rw_goto (p1 := 1653) (by decide) ?_)
  have k3740 : H3729 x 9 = H3708 x 9 := (f3734 x 9 _ gx rfl)
  have k3741 : H3729 m 6 = H3708 m 6 := (f3734 m 6 _ gm rfl)
  have k3742 : H3729 x 11 = H3708 x 11 := (f3734 x 11 _ gx rfl)
  have k3743 : H3729 m 13 = H3708 m 13 := (f3734 m 13 _ gm rfl)
  have k3744 : H3729 x 8 = H3708 x 8 := (f3734 x 8 _ gx rfl)
  have k3745 : H3729 m 3 = H3708 m 3 := (f3734 m 3 _ gm rfl)
  have k3746 : H3729 x 0 = H x 0 := ((f3734 x 0 _ gx rfl).trans (f3713 x 0 _ gx rfl))
  have q3747 : H3729 x 0 = (tc : Int) := k3746.trans e0
  have k3748 : H3729 m 5 = H m 5 := ((f3734 m 5 _ gm rfl).trans (f3713 m 5 _ gm rfl))
  have q3749 : H3729 m 5 = (tm : Int) := k3748.trans em
  have k3750 : H3729 x 6 = H x 6 := ((f3734 x 6 _ gx rfl).trans (f3713 x 6 _ gx rfl))
  have q3751 : H3729 x 6 = (cu : Int) := k3750.trans ecu
  have k3752 : H3729 x 7 = H x 7 := ((f3734 x 7 _ gx rfl).trans (f3713 x 7 _ gx rfl))
  have q3753 : H3729 x 7 = (dr : Int) := k3752.trans edr
  have h3754 : CEN T H3729 ce8 e8 d8 := (CEN_fr w3712 gce8 f3734 rfl p3716)
  have h3755 : TP T H3729 tc B := (TP_fr w3712 gtc f3734 rfl (TP_fr hW gtc f3713 rfl htc))
  have h3756 : TM T H3729 tm B := (TM_fr w3712 gtm f3734 rfl (TM_fr hW gtm f3713 rfl htm))
  have h3757 : DD T H3729 cu  := (DD_fr w3712 gcu f3734 rfl (DD_fr hW gcu f3713 rfl hcu))
  have h3758 : DD T H3729 dr  := (DD_fr w3712 gdr f3734 rfl (DD_fr hW gdr f3713 rfl hdr))
  have h3759 : DE T H3729 cu  := (DE_fr w3712 gcu f3734 rfl (DE_fr hW gcu f3713 rfl hdec))
  have h3760 : DE T H3729 dr  := (DE_fr w3712 gdr f3734 rfl (DE_fr hW gdr f3713 rfl hded))
  have h3761 : SP T H3729 x C8 := (SP_fr w3712 gx f3734 rfl (SP_fr hW gx f3713 rfl hsp))
  have h3762 : CU T H3729 cu e8 d8 n8 := (CU_fr w3712 gcu f3734 rfl (CU_fr hW gcu f3713 rfl hcu8))
  have h3763 : CY T H3729 cu (d8 0 3) g8 (H cu 17) := (CY_fr w3712 gcu f3734 rfl (CY_fr hW gcu f3713 rfl h3701))
  have k3764 : H3729 x 3 = H x 3 := ((f3734 x 3 _ gx rfl).trans (f3713 x 3 _ gx rfl))
  have q3765 : H3729 x 3 = (ce8 : Int) := k3764.trans ece8
  have h3766 : HDR T H3729 ce8  := (HDR_fr w3712 gce8 f3734 rfl (HDR_fr hW gce8 f3713 rfl hhdr8))
  have h3767 : RY T H3729 m (d8 0 3) g8 (H m 32) := (RY_fr w3712 gm f3734 rfl (RY_fr hW gm f3713 rfl h3702))
  have h3768 : RB T H3729 m e8 d8 := (RB_fr w3712 gm f3734 rfl h3725)
  exact WL.loc hX (by simp) (next T H3729 ⟨⟨w3733, g0, gx, gm, go, by omega, by omega⟩, ⟨_, tc, tm, cu, dr, _, _, _, _, _, ce8, q3747, gtc, h3755, q3749, gtm, h3756, q3751, gcu, q3753, gdr, h3757, h3758, h3759, h3760, h3761, hC1, hC2, h3762, h3768, (h3763).1, (h3767).1, hE, hZ, (by omega), (by assumption), (by omega), (by first | assumption | exact SG_0), q3765, gce8, h3754, h3766, a3739, gm⟩, by omega, by omega⟩ (by omega) (by omega))
set_option maxHeartbeats 4000000 in
theorem wl_c25 {kt : Nat → Option mc_E} {CB SB : Nat} {X : mc_S → Prop} {T : wq_T} {H : wq_H} {Len x m o : Nat} {i : Int} (hX : wlX kt CB SB X) (hb : T.2.1 ≤ CB ∧ T.2.2.1 ≤ SB) (hI : wlJ Len x m o T H) (hL : Len ≤ 3072) (hi : 0 ≤ i ∧ i + 6 ≤ Len) (hb2 : T.2.1 + 20 ≤ CB ∧ T.2.2.1 + 500 ≤ SB)  (next : ∀ T' H', wlJ Len x m o T' H' → T'.2.1 ≤ T.2.1 + 20 → T'.2.2.1 ≤ T.2.2.1 + 500 → WL kt CB SB X 1653 (wlL i x m o) [] T' H') : WL kt CB SB X 957 (wlL i x m o) [] T H := by
  obtain ⟨⟨hW, g0, gx, gm, go, hK, hr⟩, hXI, hY1, hY2⟩ := hI
  refine wl_of hX hb cL_957 (rw_aload_n (pc' := 958) (v := .ref x) rfl rfl rfl ?_)
  refine wl_of hX hb cL_958 (rw_aload_n (pc' := 959) (v := .ref 0) rfl rfl rfl ?_)
  refine wl_of hX hb cL_959 (rw_iload (pc' := 961) (z := i) rfl rfl ?_)
  refine wl_of hX hb cL_961 (rw_iconst (pc' := 962) rfl ?_)
  refine wl_of hX hb cL_962 (rw_iadd (pc' := 963) rfl ?_)
  refine wl_of hX hb cL_963 (xa_I (so := 0) (pc' := 964) (a := 0) hW g0 (wsh_s _) (by omega) (wty_s _ _) (by omega) (by omega) rfl (fun b3769 b3770 => ?_))
  refine wl_of hX hb cL_964 (rw_aload_n (pc' := 965) (v := .ref 0) rfl rfl rfl ?_)
  refine wl_of hX hb cL_965 (rw_iload (pc' := 967) (z := i) rfl rfl ?_)
  refine wl_of hX hb cL_967 (rw_iconst (pc' := 968) rfl ?_)
  refine wl_of hX hb cL_968 (rw_iadd (pc' := 969) rfl ?_)
  refine wl_of hX hb cL_969 (xa_I (so := 0) (pc' := 970) (a := 0) hW g0 (wsh_s _) (by omega) (wty_s _ _) (by omega) (by omega) rfl (fun b3771 b3772 => ?_))
  obtain ⟨B, tc, tm, cu, dr, C8, e8, d8, n8, g8, ce8, e0, gtc, htc, em, gtm, htm, ecu, gcu, edr, gdr, hcu, hdr, hdec, hded, hsp, hC1, hC2, hcu8, hrb8, hcg8, hmn8, hE, hZ, hn8, hXA, hV8, hSG, ece8, gce8, hcen8, hhdr8, hknn8, -⟩ := hXI
  have hN3 := RB_n3 hrb8
  have hE13 : ∀ h : Nat, h < 24 → 0 ≤ e8 13 h ∧ e8 13 h ≤ 100 := fun k hk => by
    obtain ⟨s, h1, h2, h3⟩ := hcu8.1.2.2.1
    exact ⟨(h3 k hk).1, (h3 k hk).2.1⟩
  have hXW := hXA.1
  have hXN := hXA.2
  have hE0 : e8 0 3 = d8 0 3 ∧ e8 0 0 = d8 0 0 := by
    have h := hE 0 (by decide)
    exact ⟨congrFun h 3, congrFun h 0⟩
  have u3773 := CU_k hcu8
  have h3774 : CY T H cu (d8 0 3) g8 (H cu 17) := ⟨hcg8, rfl⟩
  have h3775 : RY T H m (d8 0 3) g8 (H m 32) := ⟨hmn8, rfl⟩
  obtain ⟨t9, ht9⟩ : ∃ t : Int, t = H x 9 := ⟨_, rfl⟩
  obtain ⟨y9, hy9⟩ : ∃ y : Int, y = H 0 ((i + 2).toNat) := ⟨_, rfl⟩
  obtain ⟨r3776, q3777, g3778⟩ := hW.ref gx (t' := 6) (n := 13) (j := 2) (p := 0) (q := 0) rfl (by decide) rfl
  refine wl_of hX hb cL_970 (xc_V (pc' := 973) (r := x) (as := [vI (H 0 ((i + 1).toNat)), vI (H 0 ((i + 2).toNat))]) (st := []) (lm_11_126) rfl rfl (Nat.le_of_ble_eq_true rfl) hW gx sh_1 (by decide) rfl (by decide) (u_109 (e := e8) (d := d8) (n := n8) hW gx ⟨by omega, by omega⟩ ⟨by omega, by omega⟩ ecu gcu q3777 g3778 ece8 gce8 (by assumption) (by assumption) (by omega) (by omega) (by omega) (by omega) hcu8 hcen8 hhdr8) (fun R3779 T3780 H3781 p3782 => ?_))
  obtain ⟨e3783, w3785, f3786, z3787, e3784, b3788, p3789⟩ := p3782
  subst e3783
  subst e3784
  show WL _ _ _ _ 973 [(4, vI i), (3, .ref o), (2, .ref m), (1, .ref x), (0, .ref 0)] [vI z3787] _ H3781
  refine wl_of hX hb cL_973 (rw_pop (pc' := 974) rfl rfl ?_)
  refine wl_of hX hb cL_974 (rw_aload_n (pc' := 975) (v := .ref m) rfl rfl rfl ?_)
  refine wl_of hX hb cL_975 (rw_aload_n (pc' := 976) (v := .ref 0) rfl rfl rfl ?_)
  refine wl_of hX hb cL_976 (rw_iload (pc' := 978) (z := i) rfl rfl ?_)
  refine wl_of hX hb cL_978 (rw_iconst (pc' := 979) rfl ?_)
  refine wl_of hX hb cL_979 (rw_iadd (pc' := 980) rfl ?_)
  have k3793 : H3781 0 ((i + 1).toNat) = H 0 ((i + 1).toNat) := (f3786 0 ((i + 1).toNat) _ g0 (wmem_s rfl))
  refine wl_of hX hb cL_980 (xa_I (so := 0) (pc' := 981) (a := 0) w3785 g0 (wsh_s _) (by omega) (wty_s _ _) (by omega) (by omega) rfl (fun b3791 b3792 => ?_))
  refine wl_of hX hb cL_981 (rw_aload_n (pc' := 982) (v := .ref 0) rfl rfl rfl ?_)
  refine wl_of hX hb cL_982 (rw_iload (pc' := 984) (z := i) rfl rfl ?_)
  refine wl_of hX hb cL_984 (rw_iconst (pc' := 985) rfl ?_)
  refine wl_of hX hb cL_985 (rw_iadd (pc' := 986) rfl ?_)
  have k3796 : H3781 0 ((i + 2).toNat) = H 0 ((i + 2).toNat) := (f3786 0 ((i + 2).toNat) _ g0 (wmem_s rfl))
  refine wl_of hX hb cL_986 (xa_I (so := 0) (pc' := 987) (a := 0) w3785 g0 (wsh_s _) (by omega) (wty_s _ _) (by omega) (by omega) rfl (fun b3794 b3795 => ?_))
  have k3797 : wKI H3781 m = wKI H m := (wKI_fr hW gm f3786 rfl)
  have k3798 : H3781 x 9 = H x 9 := (f3786 x 9 _ gx rfl)
  have k3799 : H3781 m 6 = H m 6 := (f3786 m 6 _ gm rfl)
  have k3800 : H3781 x 11 = H x 11 := (f3786 x 11 _ gx rfl)
  have k3801 : H3781 m 13 = H m 13 := (f3786 m 13 _ gm rfl)
  have k3802 : H3781 x 8 = H x 8 := (f3786 x 8 _ gx rfl)
  have k3803 : H3781 m 3 = H m 3 := (f3786 m 3 _ gm rfl)
  rw [show H3781 0 ((i + 2).toNat) = H 0 ((i + 2).toNat) by omega]
  rw [show H3781 0 ((i + 1).toNat) = H 0 ((i + 1).toNat) by omega]
  have h3804 : RB T H3781 m e8 d8 := (RB_fr hW gm f3786 rfl hrb8)
  have h3805 : KNN T H3781 m e8 d8 := (KNN_fr hW gm f3786 rfl hknn8)
  refine wl_of hX hb cL_987 (xc_V (pc' := 990) (r := m) (as := [vI (H 0 ((i + 1).toNat)), vI (H 0 ((i + 2).toNat))]) (st := []) (lm_11_129) rfl rfl (Nat.le_of_ble_eq_true rfl) w3785 gm sh_42 (by decide) rfl (by decide) (u_259 (e := e8) (d := d8) w3785 gm ⟨by omega, by omega⟩ ⟨by omega, by omega⟩ (by omega) (by assumption) (by assumption) (by assumption) (by assumption) h3804 h3805) (fun R3806 T3807 H3808 p3809 => ?_))
  obtain ⟨e3810, w3812, f3813, z3814, e3811, b3815, p3816⟩ := p3809
  subst e3810
  subst e3811
  obtain ⟨a3817, a3818⟩ := p3816
  show WL _ _ _ _ 990 [(4, vI i), (3, .ref o), (2, .ref m), (1, .ref x), (0, .ref 0)] [vI z3814] _ H3808
  refine wl_of hX hb cL_990 (rw_pop (pc' := 991) rfl rfl ?_)
  refine wl_of hX hb cL_991 (rw_goto (p1 := 1653) (by decide) ?_)
  have k3819 : H3808 x 9 = H3781 x 9 := (f3813 x 9 _ gx rfl)
  have k3820 : H3808 m 6 = H3781 m 6 := (f3813 m 6 _ gm rfl)
  have k3821 : H3808 x 11 = H3781 x 11 := (f3813 x 11 _ gx rfl)
  have k3822 : H3808 m 13 = H3781 m 13 := (f3813 m 13 _ gm rfl)
  have k3823 : H3808 x 8 = H3781 x 8 := (f3813 x 8 _ gx rfl)
  have k3824 : H3808 m 3 = H3781 m 3 := (f3813 m 3 _ gm rfl)
  have k3825 : H3808 x 0 = H x 0 := ((f3813 x 0 _ gx rfl).trans (f3786 x 0 _ gx rfl))
  have q3826 : H3808 x 0 = (tc : Int) := k3825.trans e0
  have k3827 : H3808 m 5 = H m 5 := ((f3813 m 5 _ gm rfl).trans (f3786 m 5 _ gm rfl))
  have q3828 : H3808 m 5 = (tm : Int) := k3827.trans em
  have k3829 : H3808 x 6 = H x 6 := ((f3813 x 6 _ gx rfl).trans (f3786 x 6 _ gx rfl))
  have q3830 : H3808 x 6 = (cu : Int) := k3829.trans ecu
  have k3831 : H3808 x 7 = H x 7 := ((f3813 x 7 _ gx rfl).trans (f3786 x 7 _ gx rfl))
  have q3832 : H3808 x 7 = (dr : Int) := k3831.trans edr
  have h3833 : CEN T H3808 ce8 e8 d8 := (CEN_fr w3785 gce8 f3813 rfl p3789)
  have h3834 : TP T H3808 tc B := (TP_fr w3785 gtc f3813 rfl (TP_fr hW gtc f3786 rfl htc))
  have h3835 : TM T H3808 tm B := (TM_fr w3785 gtm f3813 rfl (TM_fr hW gtm f3786 rfl htm))
  have h3836 : DD T H3808 cu  := (DD_fr w3785 gcu f3813 rfl (DD_fr hW gcu f3786 rfl hcu))
  have h3837 : DD T H3808 dr  := (DD_fr w3785 gdr f3813 rfl (DD_fr hW gdr f3786 rfl hdr))
  have h3838 : DE T H3808 cu  := (DE_fr w3785 gcu f3813 rfl (DE_fr hW gcu f3786 rfl hdec))
  have h3839 : DE T H3808 dr  := (DE_fr w3785 gdr f3813 rfl (DE_fr hW gdr f3786 rfl hded))
  have h3840 : SP T H3808 x C8 := (SP_fr w3785 gx f3813 rfl (SP_fr hW gx f3786 rfl hsp))
  have h3841 : CU T H3808 cu e8 d8 n8 := (CU_fr w3785 gcu f3813 rfl (CU_fr hW gcu f3786 rfl hcu8))
  have h3842 : CY T H3808 cu (d8 0 3) g8 (H cu 17) := (CY_fr w3785 gcu f3813 rfl (CY_fr hW gcu f3786 rfl h3774))
  have k3843 : H3808 x 3 = H x 3 := ((f3813 x 3 _ gx rfl).trans (f3786 x 3 _ gx rfl))
  have q3844 : H3808 x 3 = (ce8 : Int) := k3843.trans ece8
  have h3845 : HDR T H3808 ce8  := (HDR_fr w3785 gce8 f3813 rfl (HDR_fr hW gce8 f3786 rfl hhdr8))
  have h3846 : RY T H3808 m (d8 0 3) g8 (H m 32) := (RY_fr w3785 gm f3813 rfl (RY_fr hW gm f3786 rfl h3775))
  have h3847 : RB T H3808 m e8 d8 := (RB_fr w3785 gm f3813 rfl h3804)
  exact WL.loc hX (by simp) (next T H3808 ⟨⟨w3812, g0, gx, gm, go, by omega, by omega⟩, ⟨_, tc, tm, cu, dr, _, _, _, _, _, ce8, q3826, gtc, h3834, q3828, gtm, h3835, q3830, gcu, q3832, gdr, h3836, h3837, h3838, h3839, h3840, hC1, hC2, h3841, h3847, (h3842).1, (h3846).1, hE, hZ, (by omega), (by assumption), (by omega), (by first | assumption | exact SG_0), q3844, gce8, h3833, h3845, a3818, gm⟩, by omega, by omega⟩ (by omega) (by omega))
set_option maxHeartbeats 4000000 in
theorem wl_c26 {kt : Nat → Option mc_E} {CB SB : Nat} {X : mc_S → Prop} {T : wq_T} {H : wq_H} {Len x m o : Nat} {i : Int} (hX : wlX kt CB SB X) (hb : T.2.1 ≤ CB ∧ T.2.2.1 ≤ SB) (hI : wlJ Len x m o T H) (hL : Len ≤ 3072) (hi : 0 ≤ i ∧ i + 6 ≤ Len) (hb2 : T.2.1 + 20 ≤ CB ∧ T.2.2.1 + 500 ≤ SB)  (next : ∀ T' H', wlJ Len x m o T' H' → T'.2.1 ≤ T.2.1 + 20 → T'.2.2.1 ≤ T.2.2.1 + 500 → WL kt CB SB X 1653 (wlL i x m o) [] T' H') : WL kt CB SB X 994 (wlL i x m o) [] T H := by
  obtain ⟨⟨hW, g0, gx, gm, go, hK, hr⟩, hXI, hY1, hY2⟩ := hI
  refine wl_of hX hb cL_994 (rw_aload_n (pc' := 995) (v := .ref x) rfl rfl rfl ?_)
  refine wl_of hX hb cL_995 (rw_aload_n (pc' := 996) (v := .ref 0) rfl rfl rfl ?_)
  refine wl_of hX hb cL_996 (rw_iload (pc' := 998) (z := i) rfl rfl ?_)
  refine wl_of hX hb cL_998 (rw_iconst (pc' := 999) rfl ?_)
  refine wl_of hX hb cL_999 (rw_iadd (pc' := 1000) rfl ?_)
  refine wl_of hX hb cL_1000 (xa_I (so := 0) (pc' := 1001) (a := 0) hW g0 (wsh_s _) (by omega) (wty_s _ _) (by omega) (by omega) rfl (fun b3848 b3849 => ?_))
  obtain ⟨B, tc, tm, cu, dr, C8, e8, d8, n8, g8, ce8, e0, gtc, htc, em, gtm, htm, ecu, gcu, edr, gdr, hcu, hdr, hdec, hded, hsp, hC1, hC2, hcu8, hrb8, hcg8, hmn8, hE, hZ, hn8, hXA, hV8, hSG, ece8, gce8, hcen8, hhdr8, hknn8, -⟩ := hXI
  have hN3 := RB_n3 hrb8
  have hE13 : ∀ h : Nat, h < 24 → 0 ≤ e8 13 h ∧ e8 13 h ≤ 100 := fun k hk => by
    obtain ⟨s, h1, h2, h3⟩ := hcu8.1.2.2.1
    exact ⟨(h3 k hk).1, (h3 k hk).2.1⟩
  have hXW := hXA.1
  have hXN := hXA.2
  have hE0 : e8 0 3 = d8 0 3 ∧ e8 0 0 = d8 0 0 := by
    have h := hE 0 (by decide)
    exact ⟨congrFun h 3, congrFun h 0⟩
  have u3850 := CU_k hcu8
  have h3851 : CY T H cu (d8 0 3) g8 (H cu 17) := ⟨hcg8, rfl⟩
  have h3852 : RY T H m (d8 0 3) g8 (H m 32) := ⟨hmn8, rfl⟩
  obtain ⟨t9, ht9⟩ : ∃ t : Int, t = H x 9 := ⟨_, rfl⟩
  obtain ⟨y9, hy9⟩ : ∃ y : Int, y = H 0 ((i + 1).toNat) := ⟨_, rfl⟩
  obtain ⟨r3853, q3854, g3855⟩ := hW.ref gx (t' := 6) (n := 13) (j := 2) (p := 0) (q := 0) rfl (by decide) rfl
  refine wl_of hX hb cL_1001 (xc_V (pc' := 1004) (r := x) (as := [vI (H 0 ((i + 1).toNat))]) (st := []) (lm_11_130) rfl rfl (Nat.le_of_ble_eq_true rfl) hW gx sh_1 (by decide) rfl (by decide) (u_112 (e := e8) (d := d8) (n := n8) hW gx ⟨by omega, by omega⟩ ecu gcu q3854 g3855 ece8 gce8 (by assumption) (by assumption) (by omega) (by omega) (by omega) (by omega) hcu8 hcen8 hhdr8) (fun R3856 T3857 H3858 p3859 => ?_))
  obtain ⟨e3860, w3862, f3863, z3864, e3861, b3865, p3866⟩ := p3859
  subst e3860
  subst e3861
  show WL _ _ _ _ 1004 [(4, vI i), (3, .ref o), (2, .ref m), (1, .ref x), (0, .ref 0)] [vL z3864] _ H3858
  refine wl_of hX hb cL_1004 (rw_pop2 (pc' := 1005) rfl rfl ?_)
  refine wl_of hX hb cL_1005 (rw_aload_n (pc' := 1006) (v := .ref m) rfl rfl rfl ?_)
  refine wl_of hX hb cL_1006 (rw_aload_n (pc' := 1007) (v := .ref 0) rfl rfl rfl ?_)
  refine wl_of hX hb cL_1007 (rw_iload (pc' := 1009) (z := i) rfl rfl ?_)
  refine wl_of hX hb cL_1009 (rw_iconst (pc' := 1010) rfl ?_)
  refine wl_of hX hb cL_1010 (rw_iadd (pc' := 1011) rfl ?_)
  have k3870 : H3858 0 ((i + 1).toNat) = H 0 ((i + 1).toNat) := (f3863 0 ((i + 1).toNat) _ g0 (wmem_s rfl))
  refine wl_of hX hb cL_1011 (xa_I (so := 0) (pc' := 1012) (a := 0) w3862 g0 (wsh_s _) (by omega) (wty_s _ _) (by omega) (by omega) rfl (fun b3868 b3869 => ?_))
  have k3871 : wKI H3858 m = wKI H m := (wKI_fr hW gm f3863 rfl)
  have k3872 : H3858 x 9 = H x 9 := (f3863 x 9 _ gx rfl)
  have k3873 : H3858 m 6 = H m 6 := (f3863 m 6 _ gm rfl)
  have k3874 : H3858 x 11 = H x 11 := (f3863 x 11 _ gx rfl)
  have k3875 : H3858 m 13 = H m 13 := (f3863 m 13 _ gm rfl)
  have k3876 : H3858 x 8 = H x 8 := (f3863 x 8 _ gx rfl)
  have k3877 : H3858 m 3 = H m 3 := (f3863 m 3 _ gm rfl)
  rw [show H3858 0 ((i + 1).toNat) = H 0 ((i + 1).toNat) by omega]
  have h3878 : RB T H3858 m e8 d8 := (RB_fr hW gm f3863 rfl hrb8)
  have h3879 : KNN T H3858 m e8 d8 := (KNN_fr hW gm f3863 rfl hknn8)
  refine wl_of hX hb cL_1012 (xc_V (pc' := 1015) (r := m) (as := [vI (H 0 ((i + 1).toNat))]) (st := []) (lm_11_134) rfl rfl (Nat.le_of_ble_eq_true rfl) w3862 gm sh_42 (by decide) rfl (by decide) (u_260 (e := e8) (d := d8) w3862 gm ⟨by omega, by omega⟩ (by omega) (by assumption) (by assumption) (by assumption) (by assumption) h3878 h3879) (fun R3880 T3881 H3882 p3883 => ?_))
  obtain ⟨e3884, w3886, f3887, z3888, e3885, b3889, p3890⟩ := p3883
  subst e3884
  subst e3885
  obtain ⟨a3891, a3892⟩ := p3890
  show WL _ _ _ _ 1015 [(4, vI i), (3, .ref o), (2, .ref m), (1, .ref x), (0, .ref 0)] [vL z3888] _ H3882
  refine wl_of hX hb cL_1015 (rw_pop2 (pc' := 1016) rfl rfl ?_)
  refine wl_of hX hb cL_1016 (rw_goto (p1 := 1653) (by decide) ?_)
  have k3893 : H3882 x 9 = H3858 x 9 := (f3887 x 9 _ gx rfl)
  have k3894 : H3882 m 6 = H3858 m 6 := (f3887 m 6 _ gm rfl)
  have k3895 : H3882 x 11 = H3858 x 11 := (f3887 x 11 _ gx rfl)
  have k3896 : H3882 m 13 = H3858 m 13 := (f3887 m 13 _ gm rfl)
  have k3897 : H3882 x 8 = H3858 x 8 := (f3887 x 8 _ gx rfl)
  have k3898 : H3882 m 3 = H3858 m 3 := (f3887 m 3 _ gm rfl)
  have k3899 : H3882 x 0 = H x 0 := ((f3887 x 0 _ gx rfl).trans (f3863 x 0 _ gx rfl))
  have q3900 : H3882 x 0 = (tc : Int) := k3899.trans e0
  have k3901 : H3882 m 5 = H m 5 := ((f3887 m 5 _ gm rfl).trans (f3863 m 5 _ gm rfl))
  have q3902 : H3882 m 5 = (tm : Int) := k3901.trans em
  have k3903 : H3882 x 6 = H x 6 := ((f3887 x 6 _ gx rfl).trans (f3863 x 6 _ gx rfl))
  have q3904 : H3882 x 6 = (cu : Int) := k3903.trans ecu
  have k3905 : H3882 x 7 = H x 7 := ((f3887 x 7 _ gx rfl).trans (f3863 x 7 _ gx rfl))
  have q3906 : H3882 x 7 = (dr : Int) := k3905.trans edr
  have h3907 : CEN T H3882 ce8 e8 d8 := (CEN_fr w3862 gce8 f3887 rfl p3866)
  have h3908 : TP T H3882 tc B := (TP_fr w3862 gtc f3887 rfl (TP_fr hW gtc f3863 rfl htc))
  have h3909 : TM T H3882 tm B := (TM_fr w3862 gtm f3887 rfl (TM_fr hW gtm f3863 rfl htm))
  have h3910 : DD T H3882 cu  := (DD_fr w3862 gcu f3887 rfl (DD_fr hW gcu f3863 rfl hcu))
  have h3911 : DD T H3882 dr  := (DD_fr w3862 gdr f3887 rfl (DD_fr hW gdr f3863 rfl hdr))
  have h3912 : DE T H3882 cu  := (DE_fr w3862 gcu f3887 rfl (DE_fr hW gcu f3863 rfl hdec))
  have h3913 : DE T H3882 dr  := (DE_fr w3862 gdr f3887 rfl (DE_fr hW gdr f3863 rfl hded))
  have h3914 : SP T H3882 x C8 := (SP_fr w3862 gx f3887 rfl (SP_fr hW gx f3863 rfl hsp))
  have h3915 : CU T H3882 cu e8 d8 n8 := (CU_fr w3862 gcu f3887 rfl (CU_fr hW gcu f3863 rfl hcu8))
  have h3916 : CY T H3882 cu (d8 0 3) g8 (H cu 17) := (CY_fr w3862 gcu f3887 rfl (CY_fr hW gcu f3863 rfl h3851))
  have k3917 : H3882 x 3 = H x 3 := ((f3887 x 3 _ gx rfl).trans (f3863 x 3 _ gx rfl))
  have q3918 : H3882 x 3 = (ce8 : Int) := k3917.trans ece8
  have h3919 : HDR T H3882 ce8  := (HDR_fr w3862 gce8 f3887 rfl (HDR_fr hW gce8 f3863 rfl hhdr8))
  have h3920 : RY T H3882 m (d8 0 3) g8 (H m 32) := (RY_fr w3862 gm f3887 rfl (RY_fr hW gm f3863 rfl h3852))
  have h3921 : RB T H3882 m e8 d8 := (RB_fr w3862 gm f3887 rfl h3878)
  exact WL.loc hX (by simp) (next T H3882 ⟨⟨w3886, g0, gx, gm, go, by omega, by omega⟩, ⟨_, tc, tm, cu, dr, _, _, _, _, _, ce8, q3900, gtc, h3908, q3902, gtm, h3909, q3904, gcu, q3906, gdr, h3910, h3911, h3912, h3913, h3914, hC1, hC2, h3915, h3921, (h3916).1, (h3920).1, hE, hZ, (by omega), (by assumption), (by omega), (by first | assumption | exact SG_0), q3918, gce8, h3907, h3919, a3892, gm⟩, by omega, by omega⟩ (by omega) (by omega))
set_option maxHeartbeats 4000000 in
theorem wl_c27 {kt : Nat → Option mc_E} {CB SB : Nat} {X : mc_S → Prop} {T : wq_T} {H : wq_H} {Len x m o : Nat} {i : Int} (hX : wlX kt CB SB X) (hb : T.2.1 ≤ CB ∧ T.2.2.1 ≤ SB) (hI : wlJ Len x m o T H) (hL : Len ≤ 3072) (hi : 0 ≤ i ∧ i + 6 ≤ Len) (hb2 : T.2.1 + 20 ≤ CB ∧ T.2.2.1 + 500 ≤ SB)  (next : ∀ T' H', wlJ Len x m o T' H' → T'.2.1 ≤ T.2.1 + 20 → T'.2.2.1 ≤ T.2.2.1 + 500 → WL kt CB SB X 1653 (wlL i x m o) [] T' H') : WL kt CB SB X 1019 (wlL i x m o) [] T H := by
  obtain ⟨⟨hW, g0, gx, gm, go, hK, hr⟩, hXI, hY1, hY2⟩ := hI
  refine wl_of hX hb cL_1019 (rw_aload_n (pc' := 1020) (v := .ref x) rfl rfl rfl ?_)
  refine wl_of hX hb cL_1020 (rw_aload_n (pc' := 1021) (v := .ref 0) rfl rfl rfl ?_)
  refine wl_of hX hb cL_1021 (rw_iload (pc' := 1023) (z := i) rfl rfl ?_)
  refine wl_of hX hb cL_1023 (rw_iconst (pc' := 1024) rfl ?_)
  refine wl_of hX hb cL_1024 (rw_iadd (pc' := 1025) rfl ?_)
  refine wl_of hX hb cL_1025 (xa_I (so := 0) (pc' := 1026) (a := 0) hW g0 (wsh_s _) (by omega) (wty_s _ _) (by omega) (by omega) rfl (fun b3922 b3923 => ?_))
  refine wl_of hX hb cL_1026 (rw_aload_n (pc' := 1027) (v := .ref 0) rfl rfl rfl ?_)
  refine wl_of hX hb cL_1027 (rw_iload (pc' := 1029) (z := i) rfl rfl ?_)
  refine wl_of hX hb cL_1029 (rw_iconst (pc' := 1030) rfl ?_)
  refine wl_of hX hb cL_1030 (rw_iadd (pc' := 1031) rfl ?_)
  refine wl_of hX hb cL_1031 (xa_I (so := 0) (pc' := 1032) (a := 0) hW g0 (wsh_s _) (by omega) (wty_s _ _) (by omega) (by omega) rfl (fun b3924 b3925 => ?_))
  obtain ⟨B, tc, tm, cu, dr, C8, e8, d8, n8, g8, ce8, e0, gtc, htc, em, gtm, htm, ecu, gcu, edr, gdr, hcu, hdr, hdec, hded, hsp, hC1, hC2, hcu8, hrb8, hcg8, hmn8, hE, hZ, hn8, hXA, hV8, hSG, ece8, gce8, hcen8, hhdr8, hknn8, -⟩ := hXI
  have hN3 := RB_n3 hrb8
  have hE13 : ∀ h : Nat, h < 24 → 0 ≤ e8 13 h ∧ e8 13 h ≤ 100 := fun k hk => by
    obtain ⟨s, h1, h2, h3⟩ := hcu8.1.2.2.1
    exact ⟨(h3 k hk).1, (h3 k hk).2.1⟩
  have hXW := hXA.1
  have hXN := hXA.2
  have hE0 : e8 0 3 = d8 0 3 ∧ e8 0 0 = d8 0 0 := by
    have h := hE 0 (by decide)
    exact ⟨congrFun h 3, congrFun h 0⟩
  have u3926 := CU_k hcu8
  have h3927 : CY T H cu (d8 0 3) g8 (H cu 17) := ⟨hcg8, rfl⟩
  have h3928 : RY T H m (d8 0 3) g8 (H m 32) := ⟨hmn8, rfl⟩
  obtain ⟨t9, ht9⟩ : ∃ t : Int, t = H x 9 := ⟨_, rfl⟩
  obtain ⟨y9, hy9⟩ : ∃ y : Int, y = H 0 ((i + 2).toNat) := ⟨_, rfl⟩
  obtain ⟨r3929, q3930, g3931⟩ := hW.ref gx (t' := 6) (n := 13) (j := 2) (p := 0) (q := 0) rfl (by decide) rfl
  refine wl_of hX hb cL_1032 (xc_V (pc' := 1035) (r := x) (as := [vI (H 0 ((i + 1).toNat)), vI (H 0 ((i + 2).toNat))]) (st := []) (lm_11_135) rfl rfl (Nat.le_of_ble_eq_true rfl) hW gx sh_1 (by decide) rfl (by decide) (u_114 (e := e8) (d := d8) (n := n8) hW gx ⟨by omega, by omega⟩ ⟨by omega, by omega⟩ ecu gcu q3930 g3931 ece8 gce8 (by assumption) (by assumption) (by omega) (by omega) (by omega) (by omega) hcu8 hcen8 hhdr8) (fun R3932 T3933 H3934 p3935 => ?_))
  obtain ⟨e3936, w3938, f3939, z3940, e3937, b3941, p3942⟩ := p3935
  subst e3936
  subst e3937
  show WL _ _ _ _ 1035 [(4, vI i), (3, .ref o), (2, .ref m), (1, .ref x), (0, .ref 0)] [vI z3940] _ H3934
  refine wl_of hX hb cL_1035 (rw_pop (pc' := 1036) rfl rfl ?_)
  refine wl_of hX hb cL_1036 (rw_aload_n (pc' := 1037) (v := .ref m) rfl rfl rfl ?_)
  refine wl_of hX hb cL_1037 (rw_aload_n (pc' := 1038) (v := .ref 0) rfl rfl rfl ?_)
  refine wl_of hX hb cL_1038 (rw_iload (pc' := 1040) (z := i) rfl rfl ?_)
  refine wl_of hX hb cL_1040 (rw_iconst (pc' := 1041) rfl ?_)
  refine wl_of hX hb cL_1041 (rw_iadd (pc' := 1042) rfl ?_)
  have k3946 : H3934 0 ((i + 1).toNat) = H 0 ((i + 1).toNat) := (f3939 0 ((i + 1).toNat) _ g0 (wmem_s rfl))
  refine wl_of hX hb cL_1042 (xa_I (so := 0) (pc' := 1043) (a := 0) w3938 g0 (wsh_s _) (by omega) (wty_s _ _) (by omega) (by omega) rfl (fun b3944 b3945 => ?_))
  refine wl_of hX hb cL_1043 (rw_aload_n (pc' := 1044) (v := .ref 0) rfl rfl rfl ?_)
  refine wl_of hX hb cL_1044 (rw_iload (pc' := 1046) (z := i) rfl rfl ?_)
  refine wl_of hX hb cL_1046 (rw_iconst (pc' := 1047) rfl ?_)
  refine wl_of hX hb cL_1047 (rw_iadd (pc' := 1048) rfl ?_)
  have k3949 : H3934 0 ((i + 2).toNat) = H 0 ((i + 2).toNat) := (f3939 0 ((i + 2).toNat) _ g0 (wmem_s rfl))
  refine wl_of hX hb cL_1048 (xa_I (so := 0) (pc' := 1049) (a := 0) w3938 g0 (wsh_s _) (by omega) (wty_s _ _) (by omega) (by omega) rfl (fun b3947 b3948 => ?_))
  have k3950 : wKI H3934 m = wKI H m := (wKI_fr hW gm f3939 rfl)
  have k3951 : H3934 x 9 = H x 9 := (f3939 x 9 _ gx rfl)
  have k3952 : H3934 m 6 = H m 6 := (f3939 m 6 _ gm rfl)
  have k3953 : H3934 x 11 = H x 11 := (f3939 x 11 _ gx rfl)
  have k3954 : H3934 m 13 = H m 13 := (f3939 m 13 _ gm rfl)
  have k3955 : H3934 x 8 = H x 8 := (f3939 x 8 _ gx rfl)
  have k3956 : H3934 m 3 = H m 3 := (f3939 m 3 _ gm rfl)
  rw [show H3934 0 ((i + 2).toNat) = H 0 ((i + 2).toNat) by omega]
  rw [show H3934 0 ((i + 1).toNat) = H 0 ((i + 1).toNat) by omega]
  have h3957 : RB T H3934 m e8 d8 := (RB_fr hW gm f3939 rfl hrb8)
  have h3958 : KNN T H3934 m e8 d8 := (KNN_fr hW gm f3939 rfl hknn8)
  refine wl_of hX hb cL_1049 (xc_V (pc' := 1052) (r := m) (as := [vI (H 0 ((i + 1).toNat)), vI (H 0 ((i + 2).toNat))]) (st := []) (lm_11_138) rfl rfl (Nat.le_of_ble_eq_true rfl) w3938 gm sh_42 (by decide) rfl (by decide) (u_261 (e := e8) (d := d8) w3938 gm ⟨by omega, by omega⟩ ⟨by omega, by omega⟩ (by omega) (by assumption) (by assumption) (by assumption) (by assumption) h3957 h3958) (fun R3959 T3960 H3961 p3962 => ?_))
  obtain ⟨e3963, w3965, f3966, z3967, e3964, b3968, p3969⟩ := p3962
  subst e3963
  subst e3964
  obtain ⟨a3970, a3971⟩ := p3969
  show WL _ _ _ _ 1052 [(4, vI i), (3, .ref o), (2, .ref m), (1, .ref x), (0, .ref 0)] [vI z3967] _ H3961
  refine wl_of hX hb cL_1052 (rw_pop (pc' := 1053) rfl rfl ?_)
  refine wl_of hX hb cL_1053 (rw_goto (p1 := 1653) (by decide) ?_)
  have k3972 : H3961 x 9 = H3934 x 9 := (f3966 x 9 _ gx rfl)
  have k3973 : H3961 m 6 = H3934 m 6 := (f3966 m 6 _ gm rfl)
  have k3974 : H3961 x 11 = H3934 x 11 := (f3966 x 11 _ gx rfl)
  have k3975 : H3961 m 13 = H3934 m 13 := (f3966 m 13 _ gm rfl)
  have k3976 : H3961 x 8 = H3934 x 8 := (f3966 x 8 _ gx rfl)
  have k3977 : H3961 m 3 = H3934 m 3 := (f3966 m 3 _ gm rfl)
  have k3978 : H3961 x 0 = H x 0 := ((f3966 x 0 _ gx rfl).trans (f3939 x 0 _ gx rfl))
  have q3979 : H3961 x 0 = (tc : Int) := k3978.trans e0
  have k3980 : H3961 m 5 = H m 5 := ((f3966 m 5 _ gm rfl).trans (f3939 m 5 _ gm rfl))
  have q3981 : H3961 m 5 = (tm : Int) := k3980.trans em
  have k3982 : H3961 x 6 = H x 6 := ((f3966 x 6 _ gx rfl).trans (f3939 x 6 _ gx rfl))
  have q3983 : H3961 x 6 = (cu : Int) := k3982.trans ecu
  have k3984 : H3961 x 7 = H x 7 := ((f3966 x 7 _ gx rfl).trans (f3939 x 7 _ gx rfl))
  have q3985 : H3961 x 7 = (dr : Int) := k3984.trans edr
  have h3986 : CEN T H3961 ce8 e8 d8 := (CEN_fr w3938 gce8 f3966 rfl p3942)
  have h3987 : TP T H3961 tc B := (TP_fr w3938 gtc f3966 rfl (TP_fr hW gtc f3939 rfl htc))
  have h3988 : TM T H3961 tm B := (TM_fr w3938 gtm f3966 rfl (TM_fr hW gtm f3939 rfl htm))
  have h3989 : DD T H3961 cu  := (DD_fr w3938 gcu f3966 rfl (DD_fr hW gcu f3939 rfl hcu))
  have h3990 : DD T H3961 dr  := (DD_fr w3938 gdr f3966 rfl (DD_fr hW gdr f3939 rfl hdr))
  have h3991 : DE T H3961 cu  := (DE_fr w3938 gcu f3966 rfl (DE_fr hW gcu f3939 rfl hdec))
  have h3992 : DE T H3961 dr  := (DE_fr w3938 gdr f3966 rfl (DE_fr hW gdr f3939 rfl hded))
  have h3993 : SP T H3961 x C8 := (SP_fr w3938 gx f3966 rfl (SP_fr hW gx f3939 rfl hsp))
  have h3994 : CU T H3961 cu e8 d8 n8 := (CU_fr w3938 gcu f3966 rfl (CU_fr hW gcu f3939 rfl hcu8))
  have h3995 : CY T H3961 cu (d8 0 3) g8 (H cu 17) := (CY_fr w3938 gcu f3966 rfl (CY_fr hW gcu f3939 rfl h3927))
  have k3996 : H3961 x 3 = H x 3 := ((f3966 x 3 _ gx rfl).trans (f3939 x 3 _ gx rfl))
  have q3997 : H3961 x 3 = (ce8 : Int) := k3996.trans ece8
  have h3998 : HDR T H3961 ce8  := (HDR_fr w3938 gce8 f3966 rfl (HDR_fr hW gce8 f3939 rfl hhdr8))
  have h3999 : RY T H3961 m (d8 0 3) g8 (H m 32) := (RY_fr w3938 gm f3966 rfl (RY_fr hW gm f3939 rfl h3928))
  have h4000 : RB T H3961 m e8 d8 := (RB_fr w3938 gm f3966 rfl h3957)
  exact WL.loc hX (by simp) (next T H3961 ⟨⟨w3965, g0, gx, gm, go, by omega, by omega⟩, ⟨_, tc, tm, cu, dr, _, _, _, _, _, ce8, q3979, gtc, h3987, q3981, gtm, h3988, q3983, gcu, q3985, gdr, h3989, h3990, h3991, h3992, h3993, hC1, hC2, h3994, h4000, (h3995).1, (h3999).1, hE, hZ, (by omega), (by assumption), (by omega), (by first | assumption | exact SG_0), q3997, gce8, h3986, h3998, a3971, gm⟩, by omega, by omega⟩ (by omega) (by omega))
set_option maxHeartbeats 4000000 in
theorem wl_c28 {kt : Nat → Option mc_E} {CB SB : Nat} {X : mc_S → Prop} {T : wq_T} {H : wq_H} {Len x m o : Nat} {i : Int} (hX : wlX kt CB SB X) (hb : T.2.1 ≤ CB ∧ T.2.2.1 ≤ SB) (hI : wlJ Len x m o T H) (hL : Len ≤ 3072) (hi : 0 ≤ i ∧ i + 6 ≤ Len) (hb2 : T.2.1 + 20 ≤ CB ∧ T.2.2.1 + 500 ≤ SB)  (next : ∀ T' H', wlJ Len x m o T' H' → T'.2.1 ≤ T.2.1 + 20 → T'.2.2.1 ≤ T.2.2.1 + 500 → WL kt CB SB X 1653 (wlL i x m o) [] T' H') : WL kt CB SB X 1056 (wlL i x m o) [] T H := by
  obtain ⟨⟨hW, g0, gx, gm, go, hK, hr⟩, hXI, hY1, hY2⟩ := hI
  refine wl_of hX hb cL_1056 (rw_aload_n (pc' := 1057) (v := .ref x) rfl rfl rfl ?_)
  refine wl_of hX hb cL_1057 (rw_aload_n (pc' := 1058) (v := .ref 0) rfl rfl rfl ?_)
  refine wl_of hX hb cL_1058 (rw_iload (pc' := 1060) (z := i) rfl rfl ?_)
  refine wl_of hX hb cL_1060 (rw_iconst (pc' := 1061) rfl ?_)
  refine wl_of hX hb cL_1061 (rw_iadd (pc' := 1062) rfl ?_)
  refine wl_of hX hb cL_1062 (xa_I (so := 0) (pc' := 1063) (a := 0) hW g0 (wsh_s _) (by omega) (wty_s _ _) (by omega) (by omega) rfl (fun b4001 b4002 => ?_))
  refine wl_of hX hb cL_1063 (rw_aload_n (pc' := 1064) (v := .ref 0) rfl rfl rfl ?_)
  refine wl_of hX hb cL_1064 (rw_iload (pc' := 1066) (z := i) rfl rfl ?_)
  refine wl_of hX hb cL_1066 (rw_iconst (pc' := 1067) rfl ?_)
  refine wl_of hX hb cL_1067 (rw_iadd (pc' := 1068) rfl ?_)
  refine wl_of hX hb cL_1068 (xa_I (so := 0) (pc' := 1069) (a := 0) hW g0 (wsh_s _) (by omega) (wty_s _ _) (by omega) (by omega) rfl (fun b4003 b4004 => ?_))
  refine wl_of hX hb cL_1069 (rw_if_eq (p1 := 1076) (p2 := 1072) (by decide) rfl ⟨by omega, by omega⟩ (fun c4005 => ?_) (fun c4005 => ?_))
  · refine wl_of hX hb cL_1076 (rw_iconst (pc' := 1077) rfl ?_)
    obtain ⟨B, tc, tm, cu, dr, C8, e8, d8, n8, g8, ce8, e0, gtc, htc, em, gtm, htm, ecu, gcu, edr, gdr, hcu, hdr, hdec, hded, hsp, hC1, hC2, hcu8, hrb8, hcg8, hmn8, hE, hZ, hn8, hXA, hV8, hSG, ece8, gce8, hcen8, hhdr8, hknn8, -⟩ := hXI
    have hN3 := RB_n3 hrb8
    have hE13 : ∀ h : Nat, h < 24 → 0 ≤ e8 13 h ∧ e8 13 h ≤ 100 := fun k hk => by
      obtain ⟨s, h1, h2, h3⟩ := hcu8.1.2.2.1
      exact ⟨(h3 k hk).1, (h3 k hk).2.1⟩
    have hXW := hXA.1
    have hXN := hXA.2
    have hE0 : e8 0 3 = d8 0 3 ∧ e8 0 0 = d8 0 0 := by
      have h := hE 0 (by decide)
      exact ⟨congrFun h 3, congrFun h 0⟩
    have u4006 := CU_k hcu8
    have h4007 : CY T H cu (d8 0 3) g8 (H cu 17) := ⟨hcg8, rfl⟩
    have h4008 : RY T H m (d8 0 3) g8 (H m 32) := ⟨hmn8, rfl⟩
    obtain ⟨t9, ht9⟩ : ∃ t : Int, t = H x 9 := ⟨_, rfl⟩
    obtain ⟨y9, hy9⟩ : ∃ y : Int, y = 0 := ⟨_, rfl⟩
    obtain ⟨r4009, q4010, g4011⟩ := hW.ref gx (t' := 6) (n := 13) (j := 2) (p := 0) (q := 0) rfl (by decide) rfl
    refine wl_of hX hb cL_1077 (xc_V (pc' := 1080) (r := x) (as := [vI (H 0 ((i + 1).toNat)), vI 0]) (st := []) (lm_11_139) rfl rfl (Nat.le_of_ble_eq_true rfl) hW gx sh_1 (by decide) rfl (by decide) (u_117 (e := e8) (d := d8) (n := n8) hW gx ⟨by omega, by omega⟩ ⟨by decide, by decide⟩ ecu gcu q4010 g4011 ece8 gce8 (by assumption) (by assumption) (by omega) (by omega) (by omega) (by omega) hcu8 hcen8 hhdr8) (fun R4012 T4013 H4014 p4015 => ?_))
    obtain ⟨e4016, w4018, f4019, z4020, e4017, b4021, p4022⟩ := p4015
    subst e4016
    subst e4017
    show WL _ _ _ _ 1080 [(4, vI i), (3, .ref o), (2, .ref m), (1, .ref x), (0, .ref 0)] [vI z4020] _ H4014
    refine wl_of hX hb cL_1080 (rw_pop (pc' := 1081) rfl rfl ?_)
    refine wl_of hX hb cL_1081 (rw_aload_n (pc' := 1082) (v := .ref m) rfl rfl rfl ?_)
    refine wl_of hX hb cL_1082 (rw_aload_n (pc' := 1083) (v := .ref 0) rfl rfl rfl ?_)
    refine wl_of hX hb cL_1083 (rw_iload (pc' := 1085) (z := i) rfl rfl ?_)
    refine wl_of hX hb cL_1085 (rw_iconst (pc' := 1086) rfl ?_)
    refine wl_of hX hb cL_1086 (rw_iadd (pc' := 1087) rfl ?_)
    have k4026 : H4014 0 ((i + 1).toNat) = H 0 ((i + 1).toNat) := (f4019 0 ((i + 1).toNat) _ g0 (wmem_s rfl))
    refine wl_of hX hb cL_1087 (xa_I (so := 0) (pc' := 1088) (a := 0) w4018 g0 (wsh_s _) (by omega) (wty_s _ _) (by omega) (by omega) rfl (fun b4024 b4025 => ?_))
    refine wl_of hX hb cL_1088 (rw_aload_n (pc' := 1089) (v := .ref 0) rfl rfl rfl ?_)
    refine wl_of hX hb cL_1089 (rw_iload (pc' := 1091) (z := i) rfl rfl ?_)
    refine wl_of hX hb cL_1091 (rw_iconst (pc' := 1092) rfl ?_)
    refine wl_of hX hb cL_1092 (rw_iadd (pc' := 1093) rfl ?_)
    have k4029 : H4014 0 ((i + 2).toNat) = H 0 ((i + 2).toNat) := (f4019 0 ((i + 2).toNat) _ g0 (wmem_s rfl))
    refine wl_of hX hb cL_1093 (xa_I (so := 0) (pc' := 1094) (a := 0) w4018 g0 (wsh_s _) (by omega) (wty_s _ _) (by omega) (by omega) rfl (fun b4027 b4028 => ?_))
    refine wl_of hX hb cL_1094 (rw_if_eq (p1 := 1101) (p2 := 1097) (by decide) rfl ⟨by omega, by omega⟩ (fun c4030 => ?_) (fun c4030 => ?_))
    · refine wl_of hX hb cL_1101 (rw_iconst (pc' := 1102) rfl ?_)
      have k4031 : wKI H4014 m = wKI H m := (wKI_fr hW gm f4019 rfl)
      have k4032 : H4014 x 9 = H x 9 := (f4019 x 9 _ gx rfl)
      have k4033 : H4014 m 6 = H m 6 := (f4019 m 6 _ gm rfl)
      have k4034 : H4014 x 11 = H x 11 := (f4019 x 11 _ gx rfl)
      have k4035 : H4014 m 13 = H m 13 := (f4019 m 13 _ gm rfl)
      have k4036 : H4014 x 8 = H x 8 := (f4019 x 8 _ gx rfl)
      have k4037 : H4014 m 3 = H m 3 := (f4019 m 3 _ gm rfl)
      rw [show H4014 0 ((i + 1).toNat) = H 0 ((i + 1).toNat) by omega]
      have h4038 : RB T H4014 m e8 d8 := (RB_fr hW gm f4019 rfl hrb8)
      have h4039 : KNN T H4014 m e8 d8 := (KNN_fr hW gm f4019 rfl hknn8)
      refine wl_of hX hb cL_1102 (xc_V (pc' := 1105) (r := m) (as := [vI (H 0 ((i + 1).toNat)), vI 0]) (st := []) (lm_11_142) rfl rfl (Nat.le_of_ble_eq_true rfl) w4018 gm sh_42 (by decide) rfl (by decide) (u_263 (e := e8) (d := d8) w4018 gm ⟨by omega, by omega⟩ ⟨by decide, by decide⟩ (by omega) (by assumption) (by assumption) (by assumption) (by assumption) h4038 h4039) (fun R4040 T4041 H4042 p4043 => ?_))
      obtain ⟨e4044, w4046, f4047, z4048, e4045, b4049, p4050⟩ := p4043
      subst e4044
      subst e4045
      obtain ⟨a4051, a4052⟩ := p4050
      show WL _ _ _ _ 1105 [(4, vI i), (3, .ref o), (2, .ref m), (1, .ref x), (0, .ref 0)] [vI z4048] _ H4042
      refine wl_of hX hb cL_1105 (rw_pop (pc' := 1106) rfl rfl ?_)
      refine wl_of hX hb cL_1106 (rw_goto (p1 := 1653) (by decide) ?_)
      have k4053 : H4042 x 9 = H4014 x 9 := (f4047 x 9 _ gx rfl)
      have k4054 : H4042 m 6 = H4014 m 6 := (f4047 m 6 _ gm rfl)
      have k4055 : H4042 x 11 = H4014 x 11 := (f4047 x 11 _ gx rfl)
      have k4056 : H4042 m 13 = H4014 m 13 := (f4047 m 13 _ gm rfl)
      have k4057 : H4042 x 8 = H4014 x 8 := (f4047 x 8 _ gx rfl)
      have k4058 : H4042 m 3 = H4014 m 3 := (f4047 m 3 _ gm rfl)
      have k4059 : H4042 x 0 = H x 0 := ((f4047 x 0 _ gx rfl).trans (f4019 x 0 _ gx rfl))
      have q4060 : H4042 x 0 = (tc : Int) := k4059.trans e0
      have k4061 : H4042 m 5 = H m 5 := ((f4047 m 5 _ gm rfl).trans (f4019 m 5 _ gm rfl))
      have q4062 : H4042 m 5 = (tm : Int) := k4061.trans em
      have k4063 : H4042 x 6 = H x 6 := ((f4047 x 6 _ gx rfl).trans (f4019 x 6 _ gx rfl))
      have q4064 : H4042 x 6 = (cu : Int) := k4063.trans ecu
      have k4065 : H4042 x 7 = H x 7 := ((f4047 x 7 _ gx rfl).trans (f4019 x 7 _ gx rfl))
      have q4066 : H4042 x 7 = (dr : Int) := k4065.trans edr
      have h4067 : CEN T H4042 ce8 e8 d8 := (CEN_fr w4018 gce8 f4047 rfl p4022)
      have h4068 : TP T H4042 tc B := (TP_fr w4018 gtc f4047 rfl (TP_fr hW gtc f4019 rfl htc))
      have h4069 : TM T H4042 tm B := (TM_fr w4018 gtm f4047 rfl (TM_fr hW gtm f4019 rfl htm))
      have h4070 : DD T H4042 cu  := (DD_fr w4018 gcu f4047 rfl (DD_fr hW gcu f4019 rfl hcu))
      have h4071 : DD T H4042 dr  := (DD_fr w4018 gdr f4047 rfl (DD_fr hW gdr f4019 rfl hdr))
      have h4072 : DE T H4042 cu  := (DE_fr w4018 gcu f4047 rfl (DE_fr hW gcu f4019 rfl hdec))
      have h4073 : DE T H4042 dr  := (DE_fr w4018 gdr f4047 rfl (DE_fr hW gdr f4019 rfl hded))
      have h4074 : SP T H4042 x C8 := (SP_fr w4018 gx f4047 rfl (SP_fr hW gx f4019 rfl hsp))
      have h4075 : CU T H4042 cu e8 d8 n8 := (CU_fr w4018 gcu f4047 rfl (CU_fr hW gcu f4019 rfl hcu8))
      have h4076 : CY T H4042 cu (d8 0 3) g8 (H cu 17) := (CY_fr w4018 gcu f4047 rfl (CY_fr hW gcu f4019 rfl h4007))
      have k4077 : H4042 x 3 = H x 3 := ((f4047 x 3 _ gx rfl).trans (f4019 x 3 _ gx rfl))
      have q4078 : H4042 x 3 = (ce8 : Int) := k4077.trans ece8
      have h4079 : HDR T H4042 ce8  := (HDR_fr w4018 gce8 f4047 rfl (HDR_fr hW gce8 f4019 rfl hhdr8))
      have h4080 : RY T H4042 m (d8 0 3) g8 (H m 32) := (RY_fr w4018 gm f4047 rfl (RY_fr hW gm f4019 rfl h4008))
      have h4081 : RB T H4042 m e8 d8 := (RB_fr w4018 gm f4047 rfl h4038)
      exact WL.loc hX (by simp) (next T H4042 ⟨⟨w4046, g0, gx, gm, go, by omega, by omega⟩, ⟨_, tc, tm, cu, dr, _, _, _, _, _, ce8, q4060, gtc, h4068, q4062, gtm, h4069, q4064, gcu, q4066, gdr, h4070, h4071, h4072, h4073, h4074, hC1, hC2, h4075, h4081, (h4076).1, (h4080).1, hE, hZ, (by omega), (by assumption), (by omega), (by first | assumption | exact SG_0), q4078, gce8, h4067, h4079, a4052, gm⟩, by omega, by omega⟩ (by omega) (by omega))
    · exfalso
      omega
  · refine wl_of hX hb cL_1072 (rw_iconst (pc' := 1073) rfl ?_)
    refine wl_of hX hb cL_1073 (rw_goto (p1 := 1077) (by decide) ?_)
    obtain ⟨B, tc, tm, cu, dr, C8, e8, d8, n8, g8, ce8, e0, gtc, htc, em, gtm, htm, ecu, gcu, edr, gdr, hcu, hdr, hdec, hded, hsp, hC1, hC2, hcu8, hrb8, hcg8, hmn8, hE, hZ, hn8, hXA, hV8, hSG, ece8, gce8, hcen8, hhdr8, hknn8, -⟩ := hXI
    have hN3 := RB_n3 hrb8
    have hE13 : ∀ h : Nat, h < 24 → 0 ≤ e8 13 h ∧ e8 13 h ≤ 100 := fun k hk => by
      obtain ⟨s, h1, h2, h3⟩ := hcu8.1.2.2.1
      exact ⟨(h3 k hk).1, (h3 k hk).2.1⟩
    have hXW := hXA.1
    have hXN := hXA.2
    have hE0 : e8 0 3 = d8 0 3 ∧ e8 0 0 = d8 0 0 := by
      have h := hE 0 (by decide)
      exact ⟨congrFun h 3, congrFun h 0⟩
    have u4082 := CU_k hcu8
    have h4083 : CY T H cu (d8 0 3) g8 (H cu 17) := ⟨hcg8, rfl⟩
    have h4084 : RY T H m (d8 0 3) g8 (H m 32) := ⟨hmn8, rfl⟩
    obtain ⟨t9, ht9⟩ : ∃ t : Int, t = H x 9 := ⟨_, rfl⟩
    obtain ⟨y9, hy9⟩ : ∃ y : Int, y = 1 := ⟨_, rfl⟩
    obtain ⟨r4085, q4086, g4087⟩ := hW.ref gx (t' := 6) (n := 13) (j := 2) (p := 0) (q := 0) rfl (by decide) rfl
    refine wl_of hX hb cL_1077 (xc_V (pc' := 1080) (r := x) (as := [vI (H 0 ((i + 1).toNat)), vI 1]) (st := []) (lm_11_139) rfl rfl (Nat.le_of_ble_eq_true rfl) hW gx sh_1 (by decide) rfl (by decide) (u_117 (e := e8) (d := d8) (n := n8) hW gx ⟨by omega, by omega⟩ ⟨by decide, by decide⟩ ecu gcu q4086 g4087 ece8 gce8 (by assumption) (by assumption) (by omega) (by omega) (by omega) (by omega) hcu8 hcen8 hhdr8) (fun R4088 T4089 H4090 p4091 => ?_))
    obtain ⟨e4092, w4094, f4095, z4096, e4093, b4097, p4098⟩ := p4091
    subst e4092
    subst e4093
    show WL _ _ _ _ 1080 [(4, vI i), (3, .ref o), (2, .ref m), (1, .ref x), (0, .ref 0)] [vI z4096] _ H4090
    refine wl_of hX hb cL_1080 (rw_pop (pc' := 1081) rfl rfl ?_)
    refine wl_of hX hb cL_1081 (rw_aload_n (pc' := 1082) (v := .ref m) rfl rfl rfl ?_)
    refine wl_of hX hb cL_1082 (rw_aload_n (pc' := 1083) (v := .ref 0) rfl rfl rfl ?_)
    refine wl_of hX hb cL_1083 (rw_iload (pc' := 1085) (z := i) rfl rfl ?_)
    refine wl_of hX hb cL_1085 (rw_iconst (pc' := 1086) rfl ?_)
    refine wl_of hX hb cL_1086 (rw_iadd (pc' := 1087) rfl ?_)
    have k4102 : H4090 0 ((i + 1).toNat) = H 0 ((i + 1).toNat) := (f4095 0 ((i + 1).toNat) _ g0 (wmem_s rfl))
    refine wl_of hX hb cL_1087 (xa_I (so := 0) (pc' := 1088) (a := 0) w4094 g0 (wsh_s _) (by omega) (wty_s _ _) (by omega) (by omega) rfl (fun b4100 b4101 => ?_))
    refine wl_of hX hb cL_1088 (rw_aload_n (pc' := 1089) (v := .ref 0) rfl rfl rfl ?_)
    refine wl_of hX hb cL_1089 (rw_iload (pc' := 1091) (z := i) rfl rfl ?_)
    refine wl_of hX hb cL_1091 (rw_iconst (pc' := 1092) rfl ?_)
    refine wl_of hX hb cL_1092 (rw_iadd (pc' := 1093) rfl ?_)
    have k4105 : H4090 0 ((i + 2).toNat) = H 0 ((i + 2).toNat) := (f4095 0 ((i + 2).toNat) _ g0 (wmem_s rfl))
    refine wl_of hX hb cL_1093 (xa_I (so := 0) (pc' := 1094) (a := 0) w4094 g0 (wsh_s _) (by omega) (wty_s _ _) (by omega) (by omega) rfl (fun b4103 b4104 => ?_))
    refine wl_of hX hb cL_1094 (rw_if_eq (p1 := 1101) (p2 := 1097) (by decide) rfl ⟨by omega, by omega⟩ (fun c4106 => ?_) (fun c4106 => ?_))
    · refine wl_of hX hb cL_1101 (rw_iconst (pc' := 1102) rfl ?_)
      have k4107 : wKI H4090 m = wKI H m := (wKI_fr hW gm f4095 rfl)
      have k4108 : H4090 x 9 = H x 9 := (f4095 x 9 _ gx rfl)
      have k4109 : H4090 m 6 = H m 6 := (f4095 m 6 _ gm rfl)
      have k4110 : H4090 x 11 = H x 11 := (f4095 x 11 _ gx rfl)
      have k4111 : H4090 m 13 = H m 13 := (f4095 m 13 _ gm rfl)
      have k4112 : H4090 x 8 = H x 8 := (f4095 x 8 _ gx rfl)
      have k4113 : H4090 m 3 = H m 3 := (f4095 m 3 _ gm rfl)
      rw [show H4090 0 ((i + 1).toNat) = H 0 ((i + 1).toNat) by omega]
      have h4114 : RB T H4090 m e8 d8 := (RB_fr hW gm f4095 rfl hrb8)
      have h4115 : KNN T H4090 m e8 d8 := (KNN_fr hW gm f4095 rfl hknn8)
      refine wl_of hX hb cL_1102 (xc_V (pc' := 1105) (r := m) (as := [vI (H 0 ((i + 1).toNat)), vI 0]) (st := []) (lm_11_142) rfl rfl (Nat.le_of_ble_eq_true rfl) w4094 gm sh_42 (by decide) rfl (by decide) (u_263 (e := e8) (d := d8) w4094 gm ⟨by omega, by omega⟩ ⟨by decide, by decide⟩ (by omega) (by assumption) (by assumption) (by assumption) (by assumption) h4114 h4115) (fun R4116 T4117 H4118 p4119 => ?_))
      obtain ⟨e4120, w4122, f4123, z4124, e4121, b4125, p4126⟩ := p4119
      subst e4120
      subst e4121
      obtain ⟨a4127, a4128⟩ := p4126
      show WL _ _ _ _ 1105 [(4, vI i), (3, .ref o), (2, .ref m), (1, .ref x), (0, .ref 0)] [vI z4124] _ H4118
      refine wl_of hX hb cL_1105 (rw_pop (pc' := 1106) rfl rfl ?_)
      refine wl_of hX hb cL_1106 (rw_goto (p1 := 1653) (by decide) ?_)
      have k4129 : H4118 x 9 = H4090 x 9 := (f4123 x 9 _ gx rfl)
      have k4130 : H4118 m 6 = H4090 m 6 := (f4123 m 6 _ gm rfl)
      have k4131 : H4118 x 11 = H4090 x 11 := (f4123 x 11 _ gx rfl)
      have k4132 : H4118 m 13 = H4090 m 13 := (f4123 m 13 _ gm rfl)
      have k4133 : H4118 x 8 = H4090 x 8 := (f4123 x 8 _ gx rfl)
      have k4134 : H4118 m 3 = H4090 m 3 := (f4123 m 3 _ gm rfl)
      have k4135 : H4118 x 0 = H x 0 := ((f4123 x 0 _ gx rfl).trans (f4095 x 0 _ gx rfl))
      have q4136 : H4118 x 0 = (tc : Int) := k4135.trans e0
      have k4137 : H4118 m 5 = H m 5 := ((f4123 m 5 _ gm rfl).trans (f4095 m 5 _ gm rfl))
      have q4138 : H4118 m 5 = (tm : Int) := k4137.trans em
      have k4139 : H4118 x 6 = H x 6 := ((f4123 x 6 _ gx rfl).trans (f4095 x 6 _ gx rfl))
      have q4140 : H4118 x 6 = (cu : Int) := k4139.trans ecu
      have k4141 : H4118 x 7 = H x 7 := ((f4123 x 7 _ gx rfl).trans (f4095 x 7 _ gx rfl))
      have q4142 : H4118 x 7 = (dr : Int) := k4141.trans edr
      have h4143 : CEN T H4118 ce8 e8 d8 := (CEN_fr w4094 gce8 f4123 rfl p4098)
      have h4144 : TP T H4118 tc B := (TP_fr w4094 gtc f4123 rfl (TP_fr hW gtc f4095 rfl htc))
      have h4145 : TM T H4118 tm B := (TM_fr w4094 gtm f4123 rfl (TM_fr hW gtm f4095 rfl htm))
      have h4146 : DD T H4118 cu  := (DD_fr w4094 gcu f4123 rfl (DD_fr hW gcu f4095 rfl hcu))
      have h4147 : DD T H4118 dr  := (DD_fr w4094 gdr f4123 rfl (DD_fr hW gdr f4095 rfl hdr))
      have h4148 : DE T H4118 cu  := (DE_fr w4094 gcu f4123 rfl (DE_fr hW gcu f4095 rfl hdec))
      have h4149 : DE T H4118 dr  := (DE_fr w4094 gdr f4123 rfl (DE_fr hW gdr f4095 rfl hded))
      have h4150 : SP T H4118 x C8 := (SP_fr w4094 gx f4123 rfl (SP_fr hW gx f4095 rfl hsp))
      have h4151 : CU T H4118 cu e8 d8 n8 := (CU_fr w4094 gcu f4123 rfl (CU_fr hW gcu f4095 rfl hcu8))
      have h4152 : CY T H4118 cu (d8 0 3) g8 (H cu 17) := (CY_fr w4094 gcu f4123 rfl (CY_fr hW gcu f4095 rfl h4083))
      have k4153 : H4118 x 3 = H x 3 := ((f4123 x 3 _ gx rfl).trans (f4095 x 3 _ gx rfl))
      have q4154 : H4118 x 3 = (ce8 : Int) := k4153.trans ece8
      have h4155 : HDR T H4118 ce8  := (HDR_fr w4094 gce8 f4123 rfl (HDR_fr hW gce8 f4095 rfl hhdr8))
      have h4156 : RY T H4118 m (d8 0 3) g8 (H m 32) := (RY_fr w4094 gm f4123 rfl (RY_fr hW gm f4095 rfl h4084))
      have h4157 : RB T H4118 m e8 d8 := (RB_fr w4094 gm f4123 rfl h4114)
      exact WL.loc hX (by simp) (next T H4118 ⟨⟨w4122, g0, gx, gm, go, by omega, by omega⟩, ⟨_, tc, tm, cu, dr, _, _, _, _, _, ce8, q4136, gtc, h4144, q4138, gtm, h4145, q4140, gcu, q4142, gdr, h4146, h4147, h4148, h4149, h4150, hC1, hC2, h4151, h4157, (h4152).1, (h4156).1, hE, hZ, (by omega), (by assumption), (by omega), (by first | assumption | exact SG_0), q4154, gce8, h4143, h4155, a4128, gm⟩, by omega, by omega⟩ (by omega) (by omega))
    · refine wl_of hX hb cL_1097 (rw_iconst (pc' := 1098) rfl ?_)
      refine wl_of hX hb cL_1098 (rw_goto (p1 := 1102) (by decide) ?_)
      have k4158 : wKI H4090 m = wKI H m := (wKI_fr hW gm f4095 rfl)
      have k4159 : H4090 x 9 = H x 9 := (f4095 x 9 _ gx rfl)
      have k4160 : H4090 m 6 = H m 6 := (f4095 m 6 _ gm rfl)
      have k4161 : H4090 x 11 = H x 11 := (f4095 x 11 _ gx rfl)
      have k4162 : H4090 m 13 = H m 13 := (f4095 m 13 _ gm rfl)
      have k4163 : H4090 x 8 = H x 8 := (f4095 x 8 _ gx rfl)
      have k4164 : H4090 m 3 = H m 3 := (f4095 m 3 _ gm rfl)
      rw [show H4090 0 ((i + 1).toNat) = H 0 ((i + 1).toNat) by omega]
      have h4165 : RB T H4090 m e8 d8 := (RB_fr hW gm f4095 rfl hrb8)
      have h4166 : KNN T H4090 m e8 d8 := (KNN_fr hW gm f4095 rfl hknn8)
      refine wl_of hX hb cL_1102 (xc_V (pc' := 1105) (r := m) (as := [vI (H 0 ((i + 1).toNat)), vI 1]) (st := []) (lm_11_142) rfl rfl (Nat.le_of_ble_eq_true rfl) w4094 gm sh_42 (by decide) rfl (by decide) (u_263 (e := e8) (d := d8) w4094 gm ⟨by omega, by omega⟩ ⟨by decide, by decide⟩ (by omega) (by assumption) (by assumption) (by assumption) (by assumption) h4165 h4166) (fun R4167 T4168 H4169 p4170 => ?_))
      obtain ⟨e4171, w4173, f4174, z4175, e4172, b4176, p4177⟩ := p4170
      subst e4171
      subst e4172
      obtain ⟨a4178, a4179⟩ := p4177
      show WL _ _ _ _ 1105 [(4, vI i), (3, .ref o), (2, .ref m), (1, .ref x), (0, .ref 0)] [vI z4175] _ H4169
      refine wl_of hX hb cL_1105 (rw_pop (pc' := 1106) rfl rfl ?_)
      refine wl_of hX hb cL_1106 (rw_goto (p1 := 1653) (by decide) ?_)
      have k4180 : H4169 x 9 = H4090 x 9 := (f4174 x 9 _ gx rfl)
      have k4181 : H4169 m 6 = H4090 m 6 := (f4174 m 6 _ gm rfl)
      have k4182 : H4169 x 11 = H4090 x 11 := (f4174 x 11 _ gx rfl)
      have k4183 : H4169 m 13 = H4090 m 13 := (f4174 m 13 _ gm rfl)
      have k4184 : H4169 x 8 = H4090 x 8 := (f4174 x 8 _ gx rfl)
      have k4185 : H4169 m 3 = H4090 m 3 := (f4174 m 3 _ gm rfl)
      have k4186 : H4169 x 0 = H x 0 := ((f4174 x 0 _ gx rfl).trans (f4095 x 0 _ gx rfl))
      have q4187 : H4169 x 0 = (tc : Int) := k4186.trans e0
      have k4188 : H4169 m 5 = H m 5 := ((f4174 m 5 _ gm rfl).trans (f4095 m 5 _ gm rfl))
      have q4189 : H4169 m 5 = (tm : Int) := k4188.trans em
      have k4190 : H4169 x 6 = H x 6 := ((f4174 x 6 _ gx rfl).trans (f4095 x 6 _ gx rfl))
      have q4191 : H4169 x 6 = (cu : Int) := k4190.trans ecu
      have k4192 : H4169 x 7 = H x 7 := ((f4174 x 7 _ gx rfl).trans (f4095 x 7 _ gx rfl))
      have q4193 : H4169 x 7 = (dr : Int) := k4192.trans edr
      have h4194 : CEN T H4169 ce8 e8 d8 := (CEN_fr w4094 gce8 f4174 rfl p4098)
      have h4195 : TP T H4169 tc B := (TP_fr w4094 gtc f4174 rfl (TP_fr hW gtc f4095 rfl htc))
      have h4196 : TM T H4169 tm B := (TM_fr w4094 gtm f4174 rfl (TM_fr hW gtm f4095 rfl htm))
      have h4197 : DD T H4169 cu  := (DD_fr w4094 gcu f4174 rfl (DD_fr hW gcu f4095 rfl hcu))
      have h4198 : DD T H4169 dr  := (DD_fr w4094 gdr f4174 rfl (DD_fr hW gdr f4095 rfl hdr))
      have h4199 : DE T H4169 cu  := (DE_fr w4094 gcu f4174 rfl (DE_fr hW gcu f4095 rfl hdec))
      have h4200 : DE T H4169 dr  := (DE_fr w4094 gdr f4174 rfl (DE_fr hW gdr f4095 rfl hded))
      have h4201 : SP T H4169 x C8 := (SP_fr w4094 gx f4174 rfl (SP_fr hW gx f4095 rfl hsp))
      have h4202 : CU T H4169 cu e8 d8 n8 := (CU_fr w4094 gcu f4174 rfl (CU_fr hW gcu f4095 rfl hcu8))
      have h4203 : CY T H4169 cu (d8 0 3) g8 (H cu 17) := (CY_fr w4094 gcu f4174 rfl (CY_fr hW gcu f4095 rfl h4083))
      have k4204 : H4169 x 3 = H x 3 := ((f4174 x 3 _ gx rfl).trans (f4095 x 3 _ gx rfl))
      have q4205 : H4169 x 3 = (ce8 : Int) := k4204.trans ece8
      have h4206 : HDR T H4169 ce8  := (HDR_fr w4094 gce8 f4174 rfl (HDR_fr hW gce8 f4095 rfl hhdr8))
      have h4207 : RY T H4169 m (d8 0 3) g8 (H m 32) := (RY_fr w4094 gm f4174 rfl (RY_fr hW gm f4095 rfl h4084))
      have h4208 : RB T H4169 m e8 d8 := (RB_fr w4094 gm f4174 rfl h4165)
      exact WL.loc hX (by simp) (next T H4169 ⟨⟨w4173, g0, gx, gm, go, by omega, by omega⟩, ⟨_, tc, tm, cu, dr, _, _, _, _, _, ce8, q4187, gtc, h4195, q4189, gtm, h4196, q4191, gcu, q4193, gdr, h4197, h4198, h4199, h4200, h4201, hC1, hC2, h4202, h4208, (h4203).1, (h4207).1, hE, hZ, (by omega), (by assumption), (by omega), (by first | assumption | exact SG_0), q4205, gce8, h4194, h4206, a4179, gm⟩, by omega, by omega⟩ (by omega) (by omega))
