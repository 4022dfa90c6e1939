/-! THE LAW, GONE ON WITH (own work) -/
set_option maxHeartbeats 4000000 in
theorem wl_c22 {kt : Nat → Option mc_E} {CB SB : Nat} {X : mc_S → Prop} {T : wq_T} {H : wq_H} {Len x m o : Nat} {i : Int} (hX : wlX kt CB SB X) (hb : T.2.1 ≤ CB ∧ T.2.2.1 ≤ SB) (hI : wlJ Len x m o T H) (hL : Len ≤ 3072) (hi : 0 ≤ i ∧ i + 6 ≤ Len) (hb2 : T.2.1 + 20 ≤ CB ∧ T.2.2.1 + 500 ≤ SB)  (next : ∀ T' H', wlJ Len x m o T' H' → T'.2.1 ≤ T.2.1 + 20 → T'.2.2.1 ≤ T.2.2.1 + 500 → WL kt CB SB X 1653 (wlL i x m o) [] T' H') : WL kt CB SB X 882 (wlL i x m o) [] T H := by
  obtain ⟨⟨hW, g0, gx, gm, go, hK, hr⟩, hXI, hY1, hY2⟩ := hI
  refine wl_of hX hb cL_882 (rw_aload_n (pc' := 883) (v := .ref x) rfl rfl rfl ?_)
  refine wl_of hX hb cL_883 (rw_aload_n (pc' := 884) (v := .ref 0) rfl rfl rfl ?_)
  refine wl_of hX hb cL_884 (rw_iload (pc' := 886) (z := i) rfl rfl ?_)
  refine wl_of hX hb cL_886 (rw_iconst (pc' := 887) rfl ?_)
  refine wl_of hX hb cL_887 (rw_iadd (pc' := 888) rfl ?_)
  refine wl_of hX hb cL_888 (xa_I (so := 0) (pc' := 889) (a := 0) hW g0 (wsh_s _) (by omega) (wty_s _ _) (by omega) (by omega) rfl (fun b3907 b3908 => ?_))
  refine wl_of hX hb cL_889 (rw_aload_n (pc' := 890) (v := .ref 0) rfl rfl rfl ?_)
  refine wl_of hX hb cL_890 (rw_iload (pc' := 892) (z := i) rfl rfl ?_)
  refine wl_of hX hb cL_892 (rw_iconst (pc' := 893) rfl ?_)
  refine wl_of hX hb cL_893 (rw_iadd (pc' := 894) rfl ?_)
  refine wl_of hX hb cL_894 (xa_I (so := 0) (pc' := 895) (a := 0) hW g0 (wsh_s _) (by omega) (wty_s _ _) (by omega) (by omega) rfl (fun b3909 b3910 => ?_))
  obtain ⟨B, tc, tm, cu, dr, C8, e8, d8, n8, g8, ce8, e0, gtc, htc, em, gtm, htm, ecu, gcu, edr, gdr, hcu, hdr, hdec, hded, hsp, hC1, hC2, hcu8, hrb8, hcg8, hmn8, hE, hZ, hn8, hXA, hV8, hSG, ece8, gce8, hcen8, hhdr8, hknn8, -⟩ := hXI
  have hN3 := RB_n3 hrb8
  have hE13 : ∀ h : Nat, h < 24 → 0 ≤ e8 13 h ∧ e8 13 h ≤ 100 := fun k hk => by
    obtain ⟨s, h1, h2, h3⟩ := hcu8.1.2.2.1
    exact ⟨(h3 k hk).1, (h3 k hk).2.1⟩
  have hXW := hXA.1
  have hXN := hXA.2
  have hE0 : e8 0 3 = d8 0 3 ∧ e8 0 0 = d8 0 0 := by
    have h := hE 0 (by decide)
    exact ⟨congrFun h 3, congrFun h 0⟩
  have u3911 := CU_k hcu8
  have h3912 : CY T H cu (d8 0 3) g8 (H cu 17) := ⟨hcg8, rfl⟩
  have h3913 : RY T H m (d8 0 3) g8 (H m 32) := ⟨hmn8, rfl⟩
  obtain ⟨t9, ht9⟩ : ∃ t : Int, t = H x 9 := ⟨_, rfl⟩
  obtain ⟨y9, hy9⟩ : ∃ y : Int, y = H 0 ((i + 2).toNat) := ⟨_, rfl⟩
  obtain ⟨r3914, q3915, g3916⟩ := hW.ref gx (t' := 6) (n := 13) (j := 2) (p := 0) (q := 0) rfl (by decide) rfl
  refine wl_of hX hb cL_895 (xc_V (pc' := 898) (r := x) (as := [vI (H 0 ((i + 1).toNat)), vI (H 0 ((i + 2).toNat))]) (st := []) (lm_11_114) rfl rfl (Nat.le_of_ble_eq_true rfl) hW gx sh_1 (by decide) rfl (by decide) (u_105 (e := e8) (d := d8) (n := n8) hW gx ⟨by omega, by omega⟩ ⟨by omega, by omega⟩ ecu gcu q3915 g3916 ece8 gce8 (by assumption) (by assumption) (by omega) (by omega) (by omega) (by omega) hcu8 hcen8 hhdr8) (fun R3917 T3918 H3919 p3920 => ?_))
  obtain ⟨e3921, w3923, f3924, z3925, e3922, b3926, p3927⟩ := p3920
  subst e3921
  subst e3922
  show WL _ _ _ _ 898 [(4, vI i), (3, .ref o), (2, .ref m), (1, .ref x), (0, .ref 0)] [vI z3925] _ H3919
  refine wl_of hX hb cL_898 (rw_pop (pc' := 899) rfl rfl ?_)
  refine wl_of hX hb cL_899 (rw_aload_n (pc' := 900) (v := .ref m) rfl rfl rfl ?_)
  refine wl_of hX hb cL_900 (rw_aload_n (pc' := 901) (v := .ref 0) rfl rfl rfl ?_)
  refine wl_of hX hb cL_901 (rw_iload (pc' := 903) (z := i) rfl rfl ?_)
  refine wl_of hX hb cL_903 (rw_iconst (pc' := 904) rfl ?_)
  refine wl_of hX hb cL_904 (rw_iadd (pc' := 905) rfl ?_)
  have k3931 : H3919 0 ((i + 1).toNat) = H 0 ((i + 1).toNat) := (f3924 0 ((i + 1).toNat) _ g0 (wmem_s rfl))
  refine wl_of hX hb cL_905 (xa_I (so := 0) (pc' := 906) (a := 0) w3923 g0 (wsh_s _) (by omega) (wty_s _ _) (by omega) (by omega) rfl (fun b3929 b3930 => ?_))
  refine wl_of hX hb cL_906 (rw_aload_n (pc' := 907) (v := .ref 0) rfl rfl rfl ?_)
  refine wl_of hX hb cL_907 (rw_iload (pc' := 909) (z := i) rfl rfl ?_)
  refine wl_of hX hb cL_909 (rw_iconst (pc' := 910) rfl ?_)
  refine wl_of hX hb cL_910 (rw_iadd (pc' := 911) rfl ?_)
  have k3934 : H3919 0 ((i + 2).toNat) = H 0 ((i + 2).toNat) := (f3924 0 ((i + 2).toNat) _ g0 (wmem_s rfl))
  refine wl_of hX hb cL_911 (xa_I (so := 0) (pc' := 912) (a := 0) w3923 g0 (wsh_s _) (by omega) (wty_s _ _) (by omega) (by omega) rfl (fun b3932 b3933 => ?_))
  have k3935 : wKI H3919 m = wKI H m := (wKI_fr hW gm f3924 rfl)
  have k3936 : H3919 x 9 = H x 9 := (f3924 x 9 _ gx rfl)
  have k3937 : H3919 m 6 = H m 6 := (f3924 m 6 _ gm rfl)
  have k3938 : H3919 x 11 = H x 11 := (f3924 x 11 _ gx rfl)
  have k3939 : H3919 m 13 = H m 13 := (f3924 m 13 _ gm rfl)
  have k3940 : H3919 x 8 = H x 8 := (f3924 x 8 _ gx rfl)
  have k3941 : H3919 m 3 = H m 3 := (f3924 m 3 _ gm rfl)
  rw [show H3919 0 ((i + 2).toNat) = H 0 ((i + 2).toNat) by omega]
  rw [show H3919 0 ((i + 1).toNat) = H 0 ((i + 1).toNat) by omega]
  have h3942 : RB T H3919 m e8 d8 := (RB_fr hW gm f3924 rfl hrb8)
  have h3943 : KNN T H3919 m e8 d8 := (KNN_fr hW gm f3924 rfl hknn8)
  refine wl_of hX hb cL_912 (xc_V (pc' := 915) (r := m) (as := [vI (H 0 ((i + 1).toNat)), vI (H 0 ((i + 2).toNat))]) (st := []) (lm_11_117) rfl rfl (Nat.le_of_ble_eq_true rfl) w3923 gm sh_42 (by decide) rfl (by decide) (u_255 (e := e8) (d := d8) w3923 gm ⟨by omega, by omega⟩ ⟨by omega, by omega⟩ (by omega) (by assumption) (by assumption) (by assumption) (by assumption) h3942 h3943) (fun R3944 T3945 H3946 p3947 => ?_))
  obtain ⟨e3948, w3950, f3951, z3952, e3949, b3953, p3954⟩ := p3947
  subst e3948
  subst e3949
  obtain ⟨a3955, a3956⟩ := p3954
  show WL _ _ _ _ 915 [(4, vI i), (3, .ref o), (2, .ref m), (1, .ref x), (0, .ref 0)] [vI z3952] _ H3946
  refine wl_of hX hb cL_915 (rw_pop (pc' := 916) rfl rfl ?_)
  refine wl_of hX hb cL_916 (rw_goto (p1 := 1653) (by decide) ?_)
  have k3957 : H3946 x 9 = H3919 x 9 := (f3951 x 9 _ gx rfl)
  have k3958 : H3946 m 6 = H3919 m 6 := (f3951 m 6 _ gm rfl)
  have k3959 : H3946 x 11 = H3919 x 11 := (f3951 x 11 _ gx rfl)
  have k3960 : H3946 m 13 = H3919 m 13 := (f3951 m 13 _ gm rfl)
  have k3961 : H3946 x 8 = H3919 x 8 := (f3951 x 8 _ gx rfl)
  have k3962 : H3946 m 3 = H3919 m 3 := (f3951 m 3 _ gm rfl)
  have k3963 : H3946 x 0 = H x 0 := ((f3951 x 0 _ gx rfl).trans (f3924 x 0 _ gx rfl))
  have q3964 : H3946 x 0 = (tc : Int) := k3963.trans e0
  have k3965 : H3946 m 5 = H m 5 := ((f3951 m 5 _ gm rfl).trans (f3924 m 5 _ gm rfl))
  have q3966 : H3946 m 5 = (tm : Int) := k3965.trans em
  have k3967 : H3946 x 6 = H x 6 := ((f3951 x 6 _ gx rfl).trans (f3924 x 6 _ gx rfl))
  have q3968 : H3946 x 6 = (cu : Int) := k3967.trans ecu
  have k3969 : H3946 x 7 = H x 7 := ((f3951 x 7 _ gx rfl).trans (f3924 x 7 _ gx rfl))
  have q3970 : H3946 x 7 = (dr : Int) := k3969.trans edr
  have h3971 : TP T H3946 tc B := (TP_fr w3923 gtc f3951 rfl (TP_fr hW gtc f3924 rfl htc))
  have h3972 : TM T H3946 tm B := (TM_fr w3923 gtm f3951 rfl (TM_fr hW gtm f3924 rfl htm))
  have h3973 : DD T H3946 cu  := (DD_fr w3923 gcu f3951 rfl (DD_fr hW gcu f3924 rfl hcu))
  have h3974 : DD T H3946 dr  := (DD_fr w3923 gdr f3951 rfl (DD_fr hW gdr f3924 rfl hdr))
  have h3975 : DE T H3946 cu  := (DE_fr w3923 gcu f3951 rfl (DE_fr hW gcu f3924 rfl hdec))
  have h3976 : DE T H3946 dr  := (DE_fr w3923 gdr f3951 rfl (DE_fr hW gdr f3924 rfl hded))
  have h3977 : SP T H3946 x C8 := (SP_fr w3923 gx f3951 rfl (SP_fr hW gx f3924 rfl hsp))
  have h3978 : CU T H3946 cu e8 d8 n8 := (CU_fr w3923 gcu f3951 rfl (CU_fr hW gcu f3924 rfl hcu8))
  have h3979 : CY T H3946 cu (d8 0 3) g8 (H cu 17) := (CY_fr w3923 gcu f3951 rfl (CY_fr hW gcu f3924 rfl h3912))
  have k3980 : H3946 x 3 = H x 3 := ((f3951 x 3 _ gx rfl).trans (f3924 x 3 _ gx rfl))
  have q3981 : H3946 x 3 = (ce8 : Int) := k3980.trans ece8
  have h3982 : CEN T H3946 ce8 e8 d8 := (CEN_fr w3923 gce8 f3951 rfl p3927)
  have h3983 : HDR T H3946 ce8  := (HDR_fr w3923 gce8 f3951 rfl (HDR_fr hW gce8 f3924 rfl hhdr8))
  have h3984 : RY T H3946 m (d8 0 3) g8 (H m 32) := (RY_fr w3923 gm f3951 rfl (RY_fr hW gm f3924 rfl h3913))
  have h3985 : RB T H3946 m e8 d8 := (RB_fr w3923 gm f3951 rfl h3942)
  exact WL.loc hX (by simp) (next T H3946 ⟨⟨w3950, g0, gx, gm, go, by omega, by omega⟩, ⟨_, tc, tm, cu, dr, _, _, _, _, _, ce8, q3964, gtc, h3971, q3966, gtm, h3972, q3968, gcu, q3970, gdr, h3973, h3974, h3975, h3976, h3977, hC1, hC2, h3978, h3985, (h3979).1, (h3984).1, hE, hZ, (by omega), (by assumption), (by omega), (by first | assumption | exact SG_0), q3981, gce8, h3982, h3983, a3956, gm⟩, by omega, by omega⟩ (by omega) (by omega))
set_option maxHeartbeats 4000000 in
theorem wl_c23 {kt : Nat → Option mc_E} {CB SB : Nat} {X : mc_S → Prop} {T : wq_T} {H : wq_H} {Len x m o : Nat} {i : Int} (hX : wlX kt CB SB X) (hb : T.2.1 ≤ CB ∧ T.2.2.1 ≤ SB) (hI : wlJ Len x m o T H) (hL : Len ≤ 3072) (hi : 0 ≤ i ∧ i + 6 ≤ Len) (hb2 : T.2.1 + 20 ≤ CB ∧ T.2.2.1 + 500 ≤ SB)  (next : ∀ T' H', wlJ Len x m o T' H' → T'.2.1 ≤ T.2.1 + 20 → T'.2.2.1 ≤ T.2.2.1 + 500 → WL kt CB SB X 1653 (wlL i x m o) [] T' H') : WL kt CB SB X 919 (wlL i x m o) [] T H := by
  obtain ⟨⟨hW, g0, gx, gm, go, hK, hr⟩, hXI, hY1, hY2⟩ := hI
  refine wl_of hX hb cL_919 (rw_aload_n (pc' := 920) (v := .ref x) rfl rfl rfl ?_)
  refine wl_of hX hb cL_920 (rw_aload_n (pc' := 921) (v := .ref 0) rfl rfl rfl ?_)
  refine wl_of hX hb cL_921 (rw_iload (pc' := 923) (z := i) rfl rfl ?_)
  refine wl_of hX hb cL_923 (rw_iconst (pc' := 924) rfl ?_)
  refine wl_of hX hb cL_924 (rw_iadd (pc' := 925) rfl ?_)
  refine wl_of hX hb cL_925 (xa_I (so := 0) (pc' := 926) (a := 0) hW g0 (wsh_s _) (by omega) (wty_s _ _) (by omega) (by omega) rfl (fun b3986 b3987 => ?_))
  obtain ⟨B, tc, tm, cu, dr, C8, e8, d8, n8, g8, ce8, e0, gtc, htc, em, gtm, htm, ecu, gcu, edr, gdr, hcu, hdr, hdec, hded, hsp, hC1, hC2, hcu8, hrb8, hcg8, hmn8, hE, hZ, hn8, hXA, hV8, hSG, ece8, gce8, hcen8, hhdr8, hknn8, -⟩ := hXI
  have hN3 := RB_n3 hrb8
  have hE13 : ∀ h : Nat, h < 24 → 0 ≤ e8 13 h ∧ e8 13 h ≤ 100 := fun k hk => by
    obtain ⟨s, h1, h2, h3⟩ := hcu8.1.2.2.1
    exact ⟨(h3 k hk).1, (h3 k hk).2.1⟩
  have hXW := hXA.1
  have hXN := hXA.2
  have hE0 : e8 0 3 = d8 0 3 ∧ e8 0 0 = d8 0 0 := by
    have h := hE 0 (by decide)
    exact ⟨congrFun h 3, congrFun h 0⟩
  have u3988 := CU_k hcu8
  have h3989 : CY T H cu (d8 0 3) g8 (H cu 17) := ⟨hcg8, rfl⟩
  have h3990 : RY T H m (d8 0 3) g8 (H m 32) := ⟨hmn8, rfl⟩
  obtain ⟨t9, ht9⟩ : ∃ t : Int, t = H x 9 := ⟨_, rfl⟩
  obtain ⟨y9, hy9⟩ : ∃ y : Int, y = H 0 ((i + 1).toNat) := ⟨_, rfl⟩
  obtain ⟨r3991, q3992, g3993⟩ := hW.ref gx (t' := 6) (n := 13) (j := 2) (p := 0) (q := 0) rfl (by decide) rfl
  refine wl_of hX hb cL_926 (xc_V (pc' := 929) (r := x) (as := [vI (H 0 ((i + 1).toNat))]) (st := []) (lm_11_118) rfl rfl (Nat.le_of_ble_eq_true rfl) hW gx sh_1 (by decide) rfl (by decide) (u_107 (e := e8) (d := d8) (n := n8) hW gx ⟨by omega, by omega⟩ ecu gcu q3992 g3993 ece8 gce8 (by assumption) (by assumption) (by omega) (by omega) (by omega) (by omega) hcu8 hcen8 hhdr8) (fun R3994 T3995 H3996 p3997 => ?_))
  obtain ⟨e3998, w4000, f4001, z4002, e3999, b4003, p4004⟩ := p3997
  subst e3998
  subst e3999
  show WL _ _ _ _ 929 [(4, vI i), (3, .ref o), (2, .ref m), (1, .ref x), (0, .ref 0)] [vI z4002] _ H3996
  refine wl_of hX hb cL_929 (rw_pop (pc' := 930) rfl rfl ?_)
  refine wl_of hX hb cL_930 (rw_aload_n (pc' := 931) (v := .ref m) rfl rfl rfl ?_)
  refine wl_of hX hb cL_931 (rw_aload_n (pc' := 932) (v := .ref 0) rfl rfl rfl ?_)
  refine wl_of hX hb cL_932 (rw_iload (pc' := 934) (z := i) rfl rfl ?_)
  refine wl_of hX hb cL_934 (rw_iconst (pc' := 935) rfl ?_)
  refine wl_of hX hb cL_935 (rw_iadd (pc' := 936) rfl ?_)
  have k4008 : H3996 0 ((i + 1).toNat) = H 0 ((i + 1).toNat) := (f4001 0 ((i + 1).toNat) _ g0 (wmem_s rfl))
  refine wl_of hX hb cL_936 (xa_I (so := 0) (pc' := 937) (a := 0) w4000 g0 (wsh_s _) (by omega) (wty_s _ _) (by omega) (by omega) rfl (fun b4006 b4007 => ?_))
  have k4009 : wKI H3996 m = wKI H m := (wKI_fr hW gm f4001 rfl)
  have k4010 : H3996 x 9 = H x 9 := (f4001 x 9 _ gx rfl)
  have k4011 : H3996 m 6 = H m 6 := (f4001 m 6 _ gm rfl)
  have k4012 : H3996 x 11 = H x 11 := (f4001 x 11 _ gx rfl)
  have k4013 : H3996 m 13 = H m 13 := (f4001 m 13 _ gm rfl)
  have k4014 : H3996 x 8 = H x 8 := (f4001 x 8 _ gx rfl)
  have k4015 : H3996 m 3 = H m 3 := (f4001 m 3 _ gm rfl)
  rw [show H3996 0 ((i + 1).toNat) = H 0 ((i + 1).toNat) by omega]
  have h4016 : RB T H3996 m e8 d8 := (RB_fr hW gm f4001 rfl hrb8)
  have h4017 : KNN T H3996 m e8 d8 := (KNN_fr hW gm f4001 rfl hknn8)
  refine wl_of hX hb cL_937 (xc_V (pc' := 940) (r := m) (as := [vI (H 0 ((i + 1).toNat))]) (st := []) (lm_11_121) rfl rfl (Nat.le_of_ble_eq_true rfl) w4000 gm sh_42 (by decide) rfl (by decide) (u_256 (e := e8) (d := d8) w4000 gm ⟨by omega, by omega⟩ (by omega) (by assumption) (by assumption) (by assumption) (by assumption) h4016 h4017) (fun R4018 T4019 H4020 p4021 => ?_))
  obtain ⟨e4022, w4024, f4025, z4026, e4023, b4027, p4028⟩ := p4021
  subst e4022
  subst e4023
  obtain ⟨a4029, a4030⟩ := p4028
  show WL _ _ _ _ 940 [(4, vI i), (3, .ref o), (2, .ref m), (1, .ref x), (0, .ref 0)] [vI z4026] _ H4020
  refine wl_of hX hb cL_940 (rw_pop (pc' := 941) rfl rfl ?_)
  refine wl_of hX hb cL_941 (rw_goto (p1 := 1653) (by decide) ?_)
  have k4031 : H4020 x 9 = H3996 x 9 := (f4025 x 9 _ gx rfl)
  have k4032 : H4020 m 6 = H3996 m 6 := (f4025 m 6 _ gm rfl)
  have k4033 : H4020 x 11 = H3996 x 11 := (f4025 x 11 _ gx rfl)
  have k4034 : H4020 m 13 = H3996 m 13 := (f4025 m 13 _ gm rfl)
  have k4035 : H4020 x 8 = H3996 x 8 := (f4025 x 8 _ gx rfl)
  have k4036 : H4020 m 3 = H3996 m 3 := (f4025 m 3 _ gm rfl)
  have k4037 : H4020 x 0 = H x 0 := ((f4025 x 0 _ gx rfl).trans (f4001 x 0 _ gx rfl))
  have q4038 : H4020 x 0 = (tc : Int) := k4037.trans e0
  have k4039 : H4020 m 5 = H m 5 := ((f4025 m 5 _ gm rfl).trans (f4001 m 5 _ gm rfl))
  have q4040 : H4020 m 5 = (tm : Int) := k4039.trans em
  have k4041 : H4020 x 6 = H x 6 := ((f4025 x 6 _ gx rfl).trans (f4001 x 6 _ gx rfl))
  have q4042 : H4020 x 6 = (cu : Int) := k4041.trans ecu
  have k4043 : H4020 x 7 = H x 7 := ((f4025 x 7 _ gx rfl).trans (f4001 x 7 _ gx rfl))
  have q4044 : H4020 x 7 = (dr : Int) := k4043.trans edr
  have h4045 : TP T H4020 tc B := (TP_fr w4000 gtc f4025 rfl (TP_fr hW gtc f4001 rfl htc))
  have h4046 : TM T H4020 tm B := (TM_fr w4000 gtm f4025 rfl (TM_fr hW gtm f4001 rfl htm))
  have h4047 : DD T H4020 cu  := (DD_fr w4000 gcu f4025 rfl (DD_fr hW gcu f4001 rfl hcu))
  have h4048 : DD T H4020 dr  := (DD_fr w4000 gdr f4025 rfl (DD_fr hW gdr f4001 rfl hdr))
  have h4049 : DE T H4020 cu  := (DE_fr w4000 gcu f4025 rfl (DE_fr hW gcu f4001 rfl hdec))
  have h4050 : DE T H4020 dr  := (DE_fr w4000 gdr f4025 rfl (DE_fr hW gdr f4001 rfl hded))
  have h4051 : SP T H4020 x C8 := (SP_fr w4000 gx f4025 rfl (SP_fr hW gx f4001 rfl hsp))
  have h4052 : CU T H4020 cu e8 d8 n8 := (CU_fr w4000 gcu f4025 rfl (CU_fr hW gcu f4001 rfl hcu8))
  have h4053 : CY T H4020 cu (d8 0 3) g8 (H cu 17) := (CY_fr w4000 gcu f4025 rfl (CY_fr hW gcu f4001 rfl h3989))
  have k4054 : H4020 x 3 = H x 3 := ((f4025 x 3 _ gx rfl).trans (f4001 x 3 _ gx rfl))
  have q4055 : H4020 x 3 = (ce8 : Int) := k4054.trans ece8
  have h4056 : CEN T H4020 ce8 e8 d8 := (CEN_fr w4000 gce8 f4025 rfl p4004)
  have h4057 : HDR T H4020 ce8  := (HDR_fr w4000 gce8 f4025 rfl (HDR_fr hW gce8 f4001 rfl hhdr8))
  have h4058 : RY T H4020 m (d8 0 3) g8 (H m 32) := (RY_fr w4000 gm f4025 rfl (RY_fr hW gm f4001 rfl h3990))
  have h4059 : RB T H4020 m e8 d8 := (RB_fr w4000 gm f4025 rfl h4016)
  exact WL.loc hX (by simp) (next T H4020 ⟨⟨w4024, g0, gx, gm, go, by omega, by omega⟩, ⟨_, tc, tm, cu, dr, _, _, _, _, _, ce8, q4038, gtc, h4045, q4040, gtm, h4046, q4042, gcu, q4044, gdr, h4047, h4048, h4049, h4050, h4051, hC1, hC2, h4052, h4059, (h4053).1, (h4058).1, hE, hZ, (by omega), (by assumption), (by omega), (by first | assumption | exact SG_0), q4055, gce8, h4056, h4057, a4030, gm⟩, by omega, by omega⟩ (by omega) (by omega))
set_option maxHeartbeats 4000000 in
theorem wl_c24 {kt : Nat → Option mc_E} {CB SB : Nat} {X : mc_S → Prop} {T : wq_T} {H : wq_H} {Len x m o : Nat} {i : Int} (hX : wlX kt CB SB X) (hb : T.2.1 ≤ CB ∧ T.2.2.1 ≤ SB) (hI : wlJ Len x m o T H) (hL : Len ≤ 3072) (hi : 0 ≤ i ∧ i + 6 ≤ Len) (hb2 : T.2.1 + 20 ≤ CB ∧ T.2.2.1 + 500 ≤ SB)  (next : ∀ T' H', wlJ Len x m o T' H' → T'.2.1 ≤ T.2.1 + 20 → T'.2.2.1 ≤ T.2.2.1 + 500 → WL kt CB SB X 1653 (wlL i x m o) [] T' H') : WL kt CB SB X 944 (wlL i x m o) [] T H := by
  obtain ⟨⟨hW, g0, gx, gm, go, hK, hr⟩, hXI, hY1, hY2⟩ := hI
  refine wl_of hX hb cL_944 (rw_aload_n (pc' := 945) (v := .ref x) rfl rfl rfl ?_)
  obtain ⟨B, tc, tm, cu, dr, C8, e8, d8, n8, g8, ce8, e0, gtc, htc, em, gtm, htm, ecu, gcu, edr, gdr, hcu, hdr, hdec, hded, hsp, hC1, hC2, hcu8, hrb8, hcg8, hmn8, hE, hZ, hn8, hXA, hV8, hSG, ece8, gce8, hcen8, hhdr8, hknn8, -⟩ := hXI
  have hN3 := RB_n3 hrb8
  have hE13 : ∀ h : Nat, h < 24 → 0 ≤ e8 13 h ∧ e8 13 h ≤ 100 := fun k hk => by
    obtain ⟨s, h1, h2, h3⟩ := hcu8.1.2.2.1
    exact ⟨(h3 k hk).1, (h3 k hk).2.1⟩
  have hXW := hXA.1
  have hXN := hXA.2
  have hE0 : e8 0 3 = d8 0 3 ∧ e8 0 0 = d8 0 0 := by
    have h := hE 0 (by decide)
    exact ⟨congrFun h 3, congrFun h 0⟩
  have u4060 := CU_k hcu8
  have h4061 : CY T H cu (d8 0 3) g8 (H cu 17) := ⟨hcg8, rfl⟩
  have h4062 : RY T H m (d8 0 3) g8 (H m 32) := ⟨hmn8, rfl⟩
  obtain ⟨t9, ht9⟩ : ∃ t : Int, t = H x 9 := ⟨_, rfl⟩
  obtain ⟨r4063, q4064, g4065⟩ := hW.ref gx (t' := 6) (n := 13) (j := 2) (p := 0) (q := 0) rfl (by decide) rfl
  refine wl_of hX hb cL_945 (xc_V (pc' := 948) (r := x) (as := []) (st := []) (lm_11_122) rfl rfl (Nat.le_of_ble_eq_true rfl) hW gx sh_1 (by decide) rfl (by decide) (u_108 (e := e8) (d := d8) (n := n8) hW gx ecu gcu q4064 g4065 ece8 gce8 (by assumption) (by assumption) (by omega) (by omega) (by omega) (by omega) hcu8 hcen8 hhdr8) (fun R4066 T4067 H4068 p4069 => ?_))
  obtain ⟨e4070, w4072, f4073, z4074, e4071, b4075, p4076⟩ := p4069
  subst e4070
  subst e4071
  show WL _ _ _ _ 948 [(4, vI i), (3, .ref o), (2, .ref m), (1, .ref x), (0, .ref 0)] [vL z4074] _ H4068
  refine wl_of hX hb cL_948 (rw_pop2 (pc' := 949) rfl rfl ?_)
  refine wl_of hX hb cL_949 (rw_aload_n (pc' := 950) (v := .ref m) rfl rfl rfl ?_)
  have k4078 : wKI H4068 m = wKI H m := (wKI_fr hW gm f4073 rfl)
  have k4079 : H4068 x 9 = H x 9 := (f4073 x 9 _ gx rfl)
  have k4080 : H4068 m 6 = H m 6 := (f4073 m 6 _ gm rfl)
  have k4081 : H4068 x 11 = H x 11 := (f4073 x 11 _ gx rfl)
  have k4082 : H4068 m 13 = H m 13 := (f4073 m 13 _ gm rfl)
  have k4083 : H4068 x 8 = H x 8 := (f4073 x 8 _ gx rfl)
  have k4084 : H4068 m 3 = H m 3 := (f4073 m 3 _ gm rfl)
  have h4085 : RB T H4068 m e8 d8 := (RB_fr hW gm f4073 rfl hrb8)
  have h4086 : KNN T H4068 m e8 d8 := (KNN_fr hW gm f4073 rfl hknn8)
  refine wl_of hX hb cL_950 (xc_V (pc' := 953) (r := m) (as := []) (st := []) (lm_11_125) rfl rfl (Nat.le_of_ble_eq_true rfl) w4072 gm sh_42 (by decide) rfl (by decide) (u_258 (e := e8) (d := d8) w4072 gm (by omega) (by assumption) (by assumption) (by assumption) (by assumption) h4085 h4086) (fun R4087 T4088 H4089 p4090 => ?_))
  obtain ⟨e4091, w4093, f4094, z4095, e4092, b4096, p4097⟩ := p4090
  subst e4091
  subst e4092
  obtain ⟨a4098, a4099⟩ := p4097
  show WL _ _ _ _ 953 [(4, vI i), (3, .ref o), (2, .ref m), (1, .ref x), (0, .ref 0)] [vL z4095] _ H4089
  refine wl_of hX hb cL_953 (rw_pop2 (pc' := 954) rfl rfl ?_)
  refine wl_of hX hb cL_954 (rw_goto (p1 := 1653) (by decide) ?_)
  have k4100 : H4089 x 9 = H4068 x 9 := (f4094 x 9 _ gx rfl)
  have k4101 : H4089 m 6 = H4068 m 6 := (f4094 m 6 _ gm rfl)
  have k4102 : H4089 x 11 = H4068 x 11 := (f4094 x 11 _ gx rfl)
  have k4103 : H4089 m 13 = H4068 m 13 := (f4094 m 13 _ gm rfl)
  have k4104 : H4089 x 8 = H4068 x 8 := (f4094 x 8 _ gx rfl)
  have k4105 : H4089 m 3 = H4068 m 3 := (f4094 m 3 _ gm rfl)
  have k4106 : H4089 x 0 = H x 0 := ((f4094 x 0 _ gx rfl).trans (f4073 x 0 _ gx rfl))
  have q4107 : H4089 x 0 = (tc : Int) := k4106.trans e0
  have k4108 : H4089 m 5 = H m 5 := ((f4094 m 5 _ gm rfl).trans (f4073 m 5 _ gm rfl))
  have q4109 : H4089 m 5 = (tm : Int) := k4108.trans em
  have k4110 : H4089 x 6 = H x 6 := ((f4094 x 6 _ gx rfl).trans (f4073 x 6 _ gx rfl))
  have q4111 : H4089 x 6 = (cu : Int) := k4110.trans ecu
  have k4112 : H4089 x 7 = H x 7 := ((f4094 x 7 _ gx rfl).trans (f4073 x 7 _ gx rfl))
  have q4113 : H4089 x 7 = (dr : Int) := k4112.trans edr
  have h4114 : TP T H4089 tc B := (TP_fr w4072 gtc f4094 rfl (TP_fr hW gtc f4073 rfl htc))
  have h4115 : TM T H4089 tm B := (TM_fr w4072 gtm f4094 rfl (TM_fr hW gtm f4073 rfl htm))
  have h4116 : DD T H4089 cu  := (DD_fr w4072 gcu f4094 rfl (DD_fr hW gcu f4073 rfl hcu))
  have h4117 : DD T H4089 dr  := (DD_fr w4072 gdr f4094 rfl (DD_fr hW gdr f4073 rfl hdr))
  have h4118 : DE T H4089 cu  := (DE_fr w4072 gcu f4094 rfl (DE_fr hW gcu f4073 rfl hdec))
  have h4119 : DE T H4089 dr  := (DE_fr w4072 gdr f4094 rfl (DE_fr hW gdr f4073 rfl hded))
  have h4120 : SP T H4089 x C8 := (SP_fr w4072 gx f4094 rfl (SP_fr hW gx f4073 rfl hsp))
  have h4121 : CU T H4089 cu e8 d8 n8 := (CU_fr w4072 gcu f4094 rfl (CU_fr hW gcu f4073 rfl hcu8))
  have h4122 : CY T H4089 cu (d8 0 3) g8 (H cu 17) := (CY_fr w4072 gcu f4094 rfl (CY_fr hW gcu f4073 rfl h4061))
  have k4123 : H4089 x 3 = H x 3 := ((f4094 x 3 _ gx rfl).trans (f4073 x 3 _ gx rfl))
  have q4124 : H4089 x 3 = (ce8 : Int) := k4123.trans ece8
  have h4125 : CEN T H4089 ce8 e8 d8 := (CEN_fr w4072 gce8 f4094 rfl p4076)
  have h4126 : HDR T H4089 ce8  := (HDR_fr w4072 gce8 f4094 rfl (HDR_fr hW gce8 f4073 rfl hhdr8))
  have h4127 : RY T H4089 m (d8 0 3) g8 (H m 32) := (RY_fr w4072 gm f4094 rfl (RY_fr hW gm f4073 rfl h4062))
  have h4128 : RB T H4089 m e8 d8 := (RB_fr w4072 gm f4094 rfl h4085)
  exact WL.loc hX (by simp) (next T H4089 ⟨⟨w4093, g0, gx, gm, go, by omega, by omega⟩, ⟨_, tc, tm, cu, dr, _, _, _, _, _, ce8, q4107, gtc, h4114, q4109, gtm, h4115, q4111, gcu, q4113, gdr, h4116, h4117, h4118, h4119, h4120, hC1, hC2, h4121, h4128, (h4122).1, (h4127).1, hE, hZ, (by omega), (by assumption), (by omega), (by first | assumption | exact SG_0), q4124, gce8, h4125, h4126, a4099, gm⟩, by omega, by omega⟩ (by omega) (by omega))
set_option maxHeartbeats 4000000 in
theorem wl_c25 {kt : Nat → Option mc_E} {CB SB : Nat} {X : mc_S → Prop} {T : wq_T} {H : wq_H} {Len x m o : Nat} {i : Int} (hX : wlX kt CB SB X) (hb : T.2.1 ≤ CB ∧ T.2.2.1 ≤ SB) (hI : wlJ Len x m o T H) (hL : Len ≤ 3072) (hi : 0 ≤ i ∧ i + 6 ≤ Len) (hb2 : T.2.1 + 20 ≤ CB ∧ T.2.2.1 + 500 ≤ SB)  (next : ∀ T' H', wlJ Len x m o T' H' → T'.2.1 ≤ T.2.1 + 20 → T'.2.2.1 ≤ T.2.2.1 + 500 → WL kt CB SB X 1653 (wlL i x m o) [] T' H') : WL kt CB SB X 957 (wlL i x m o) [] T H := by
  obtain ⟨⟨hW, g0, gx, gm, go, hK, hr⟩, hXI, hY1, hY2⟩ := hI
  refine wl_of hX hb cL_957 (rw_aload_n (pc' := 958) (v := .ref x) rfl rfl rfl ?_)
  refine wl_of hX hb cL_958 (rw_aload_n (pc' := 959) (v := .ref 0) rfl rfl rfl ?_)
  refine wl_of hX hb cL_959 (rw_iload (pc' := 961) (z := i) rfl rfl ?_)
  refine wl_of hX hb cL_961 (rw_iconst (pc' := 962) rfl ?_)
  refine wl_of hX hb cL_962 (rw_iadd (pc' := 963) rfl ?_)
  refine wl_of hX hb cL_963 (xa_I (so := 0) (pc' := 964) (a := 0) hW g0 (wsh_s _) (by omega) (wty_s _ _) (by omega) (by omega) rfl (fun b4129 b4130 => ?_))
  refine wl_of hX hb cL_964 (rw_aload_n (pc' := 965) (v := .ref 0) rfl rfl rfl ?_)
  refine wl_of hX hb cL_965 (rw_iload (pc' := 967) (z := i) rfl rfl ?_)
  refine wl_of hX hb cL_967 (rw_iconst (pc' := 968) rfl ?_)
  refine wl_of hX hb cL_968 (rw_iadd (pc' := 969) rfl ?_)
  refine wl_of hX hb cL_969 (xa_I (so := 0) (pc' := 970) (a := 0) hW g0 (wsh_s _) (by omega) (wty_s _ _) (by omega) (by omega) rfl (fun b4131 b4132 => ?_))
  obtain ⟨B, tc, tm, cu, dr, C8, e8, d8, n8, g8, ce8, e0, gtc, htc, em, gtm, htm, ecu, gcu, edr, gdr, hcu, hdr, hdec, hded, hsp, hC1, hC2, hcu8, hrb8, hcg8, hmn8, hE, hZ, hn8, hXA, hV8, hSG, ece8, gce8, hcen8, hhdr8, hknn8, -⟩ := hXI
  have hN3 := RB_n3 hrb8
  have hE13 : ∀ h : Nat, h < 24 → 0 ≤ e8 13 h ∧ e8 13 h ≤ 100 := fun k hk => by
    obtain ⟨s, h1, h2, h3⟩ := hcu8.1.2.2.1
    exact ⟨(h3 k hk).1, (h3 k hk).2.1⟩
  have hXW := hXA.1
  have hXN := hXA.2
  have hE0 : e8 0 3 = d8 0 3 ∧ e8 0 0 = d8 0 0 := by
    have h := hE 0 (by decide)
    exact ⟨congrFun h 3, congrFun h 0⟩
  have u4133 := CU_k hcu8
  have h4134 : CY T H cu (d8 0 3) g8 (H cu 17) := ⟨hcg8, rfl⟩
  have h4135 : RY T H m (d8 0 3) g8 (H m 32) := ⟨hmn8, rfl⟩
  obtain ⟨t9, ht9⟩ : ∃ t : Int, t = H x 9 := ⟨_, rfl⟩
  obtain ⟨y9, hy9⟩ : ∃ y : Int, y = H 0 ((i + 2).toNat) := ⟨_, rfl⟩
  obtain ⟨r4136, q4137, g4138⟩ := hW.ref gx (t' := 6) (n := 13) (j := 2) (p := 0) (q := 0) rfl (by decide) rfl
  refine wl_of hX hb cL_970 (xc_V (pc' := 973) (r := x) (as := [vI (H 0 ((i + 1).toNat)), vI (H 0 ((i + 2).toNat))]) (st := []) (lm_11_126) rfl rfl (Nat.le_of_ble_eq_true rfl) hW gx sh_1 (by decide) rfl (by decide) (u_109 (e := e8) (d := d8) (n := n8) hW gx ⟨by omega, by omega⟩ ⟨by omega, by omega⟩ ecu gcu q4137 g4138 ece8 gce8 (by assumption) (by assumption) (by omega) (by omega) (by omega) (by omega) hcu8 hcen8 hhdr8) (fun R4139 T4140 H4141 p4142 => ?_))
  obtain ⟨e4143, w4145, f4146, z4147, e4144, b4148, p4149⟩ := p4142
  subst e4143
  subst e4144
  show WL _ _ _ _ 973 [(4, vI i), (3, .ref o), (2, .ref m), (1, .ref x), (0, .ref 0)] [vI z4147] _ H4141
  refine wl_of hX hb cL_973 (rw_pop (pc' := 974) rfl rfl ?_)
  refine wl_of hX hb cL_974 (rw_aload_n (pc' := 975) (v := .ref m) rfl rfl rfl ?_)
  refine wl_of hX hb cL_975 (rw_aload_n (pc' := 976) (v := .ref 0) rfl rfl rfl ?_)
  refine wl_of hX hb cL_976 (rw_iload (pc' := 978) (z := i) rfl rfl ?_)
  refine wl_of hX hb cL_978 (rw_iconst (pc' := 979) rfl ?_)
  refine wl_of hX hb cL_979 (rw_iadd (pc' := 980) rfl ?_)
  have k4153 : H4141 0 ((i + 1).toNat) = H 0 ((i + 1).toNat) := (f4146 0 ((i + 1).toNat) _ g0 (wmem_s rfl))
  refine wl_of hX hb cL_980 (xa_I (so := 0) (pc' := 981) (a := 0) w4145 g0 (wsh_s _) (by omega) (wty_s _ _) (by omega) (by omega) rfl (fun b4151 b4152 => ?_))
  refine wl_of hX hb cL_981 (rw_aload_n (pc' := 982) (v := .ref 0) rfl rfl rfl ?_)
  refine wl_of hX hb cL_982 (rw_iload (pc' := 984) (z := i) rfl rfl ?_)
  refine wl_of hX hb cL_984 (rw_iconst (pc' := 985) rfl ?_)
  refine wl_of hX hb cL_985 (rw_iadd (pc' := 986) rfl ?_)
  have k4156 : H4141 0 ((i + 2).toNat) = H 0 ((i + 2).toNat) := (f4146 0 ((i + 2).toNat) _ g0 (wmem_s rfl))
  refine wl_of hX hb cL_986 (xa_I (so := 0) (pc' := 987) (a := 0) w4145 g0 (wsh_s _) (by omega) (wty_s _ _) (by omega) (by omega) rfl (fun b4154 b4155 => ?_))
  have k4157 : wKI H4141 m = wKI H m := (wKI_fr hW gm f4146 rfl)
  have k4158 : H4141 x 9 = H x 9 := (f4146 x 9 _ gx rfl)
  have k4159 : H4141 m 6 = H m 6 := (f4146 m 6 _ gm rfl)
  have k4160 : H4141 x 11 = H x 11 := (f4146 x 11 _ gx rfl)
  have k4161 : H4141 m 13 = H m 13 := (f4146 m 13 _ gm rfl)
  have k4162 : H4141 x 8 = H x 8 := (f4146 x 8 _ gx rfl)
  have k4163 : H4141 m 3 = H m 3 := (f4146 m 3 _ gm rfl)
  rw [show H4141 0 ((i + 2).toNat) = H 0 ((i + 2).toNat) by omega]
  rw [show H4141 0 ((i + 1).toNat) = H 0 ((i + 1).toNat) by omega]
  have h4164 : RB T H4141 m e8 d8 := (RB_fr hW gm f4146 rfl hrb8)
  have h4165 : KNN T H4141 m e8 d8 := (KNN_fr hW gm f4146 rfl hknn8)
  refine wl_of hX hb cL_987 (xc_V (pc' := 990) (r := m) (as := [vI (H 0 ((i + 1).toNat)), vI (H 0 ((i + 2).toNat))]) (st := []) (lm_11_129) rfl rfl (Nat.le_of_ble_eq_true rfl) w4145 gm sh_42 (by decide) rfl (by decide) (u_259 (e := e8) (d := d8) w4145 gm ⟨by omega, by omega⟩ ⟨by omega, by omega⟩ (by omega) (by assumption) (by assumption) (by assumption) (by assumption) h4164 h4165) (fun R4166 T4167 H4168 p4169 => ?_))
  obtain ⟨e4170, w4172, f4173, z4174, e4171, b4175, p4176⟩ := p4169
  subst e4170
  subst e4171
  obtain ⟨a4177, a4178⟩ := p4176
  show WL _ _ _ _ 990 [(4, vI i), (3, .ref o), (2, .ref m), (1, .ref x), (0, .ref 0)] [vI z4174] _ H4168
  refine wl_of hX hb cL_990 (rw_pop (pc' := 991) rfl rfl ?_)
  refine wl_of hX hb cL_991 (rw_goto (p1 := 1653) (by decide) ?_)
  have k4179 : H4168 x 9 = H4141 x 9 := (f4173 x 9 _ gx rfl)
  have k4180 : H4168 m 6 = H4141 m 6 := (f4173 m 6 _ gm rfl)
  have k4181 : H4168 x 11 = H4141 x 11 := (f4173 x 11 _ gx rfl)
  have k4182 : H4168 m 13 = H4141 m 13 := (f4173 m 13 _ gm rfl)
  have k4183 : H4168 x 8 = H4141 x 8 := (f4173 x 8 _ gx rfl)
  have k4184 : H4168 m 3 = H4141 m 3 := (f4173 m 3 _ gm rfl)
  have k4185 : H4168 x 0 = H x 0 := ((f4173 x 0 _ gx rfl).trans (f4146 x 0 _ gx rfl))
  have q4186 : H4168 x 0 = (tc : Int) := k4185.trans e0
  have k4187 : H4168 m 5 = H m 5 := ((f4173 m 5 _ gm rfl).trans (f4146 m 5 _ gm rfl))
  have q4188 : H4168 m 5 = (tm : Int) := k4187.trans em
  have k4189 : H4168 x 6 = H x 6 := ((f4173 x 6 _ gx rfl).trans (f4146 x 6 _ gx rfl))
  have q4190 : H4168 x 6 = (cu : Int) := k4189.trans ecu
  have k4191 : H4168 x 7 = H x 7 := ((f4173 x 7 _ gx rfl).trans (f4146 x 7 _ gx rfl))
  have q4192 : H4168 x 7 = (dr : Int) := k4191.trans edr
  have h4193 : TP T H4168 tc B := (TP_fr w4145 gtc f4173 rfl (TP_fr hW gtc f4146 rfl htc))
  have h4194 : TM T H4168 tm B := (TM_fr w4145 gtm f4173 rfl (TM_fr hW gtm f4146 rfl htm))
  have h4195 : DD T H4168 cu  := (DD_fr w4145 gcu f4173 rfl (DD_fr hW gcu f4146 rfl hcu))
  have h4196 : DD T H4168 dr  := (DD_fr w4145 gdr f4173 rfl (DD_fr hW gdr f4146 rfl hdr))
  have h4197 : DE T H4168 cu  := (DE_fr w4145 gcu f4173 rfl (DE_fr hW gcu f4146 rfl hdec))
  have h4198 : DE T H4168 dr  := (DE_fr w4145 gdr f4173 rfl (DE_fr hW gdr f4146 rfl hded))
  have h4199 : SP T H4168 x C8 := (SP_fr w4145 gx f4173 rfl (SP_fr hW gx f4146 rfl hsp))
  have h4200 : CU T H4168 cu e8 d8 n8 := (CU_fr w4145 gcu f4173 rfl (CU_fr hW gcu f4146 rfl hcu8))
  have h4201 : CY T H4168 cu (d8 0 3) g8 (H cu 17) := (CY_fr w4145 gcu f4173 rfl (CY_fr hW gcu f4146 rfl h4134))
  have k4202 : H4168 x 3 = H x 3 := ((f4173 x 3 _ gx rfl).trans (f4146 x 3 _ gx rfl))
  have q4203 : H4168 x 3 = (ce8 : Int) := k4202.trans ece8
  have h4204 : CEN T H4168 ce8 e8 d8 := (CEN_fr w4145 gce8 f4173 rfl p4149)
  have h4205 : HDR T H4168 ce8  := (HDR_fr w4145 gce8 f4173 rfl (HDR_fr hW gce8 f4146 rfl hhdr8))
  have h4206 : RY T H4168 m (d8 0 3) g8 (H m 32) := (RY_fr w4145 gm f4173 rfl (RY_fr hW gm f4146 rfl h4135))
  have h4207 : RB T H4168 m e8 d8 := (RB_fr w4145 gm f4173 rfl h4164)
  exact WL.loc hX (by simp) (next T H4168 ⟨⟨w4172, g0, gx, gm, go, by omega, by omega⟩, ⟨_, tc, tm, cu, dr, _, _, _, _, _, ce8, q4186, gtc, h4193, q4188, gtm, h4194, q4190, gcu, q4192, gdr, h4195, h4196, h4197, h4198, h4199, hC1, hC2, h4200, h4207, (h4201).1, (h4206).1, hE, hZ, (by omega), (by assumption), (by omega), (by first | assumption | exact SG_0), q4203, gce8, h4204, h4205, a4178, gm⟩, by omega, by omega⟩ (by omega) (by omega))
set_option maxHeartbeats 4000000 in
theorem wl_c26 {kt : Nat → Option mc_E} {CB SB : Nat} {X : mc_S → Prop} {T : wq_T} {H : wq_H} {Len x m o : Nat} {i : Int} (hX : wlX kt CB SB X) (hb : T.2.1 ≤ CB ∧ T.2.2.1 ≤ SB) (hI : wlJ Len x m o T H) (hL : Len ≤ 3072) (hi : 0 ≤ i ∧ i + 6 ≤ Len) (hb2 : T.2.1 + 20 ≤ CB ∧ T.2.2.1 + 500 ≤ SB)  (next : ∀ T' H', wlJ Len x m o T' H' → T'.2.1 ≤ T.2.1 + 20 → T'.2.2.1 ≤ T.2.2.1 + 500 → WL kt CB SB X 1653 (wlL i x m o) [] T' H') : WL kt CB SB X 994 (wlL i x m o) [] T H := by
  obtain ⟨⟨hW, g0, gx, gm, go, hK, hr⟩, hXI, hY1, hY2⟩ := hI
  refine wl_of hX hb cL_994 (rw_aload_n (pc' := 995) (v := .ref x) rfl rfl rfl ?_)
  refine wl_of hX hb cL_995 (rw_aload_n (pc' := 996) (v := .ref 0) rfl rfl rfl ?_)
  refine wl_of hX hb cL_996 (rw_iload (pc' := 998) (z := i) rfl rfl ?_)
  refine wl_of hX hb cL_998 (rw_iconst (pc' := 999) rfl ?_)
  refine wl_of hX hb cL_999 (rw_iadd (pc' := 1000) rfl ?_)
  refine wl_of hX hb cL_1000 (xa_I (so := 0) (pc' := 1001) (a := 0) hW g0 (wsh_s _) (by omega) (wty_s _ _) (by omega) (by omega) rfl (fun b4208 b4209 => ?_))
  obtain ⟨B, tc, tm, cu, dr, C8, e8, d8, n8, g8, ce8, e0, gtc, htc, em, gtm, htm, ecu, gcu, edr, gdr, hcu, hdr, hdec, hded, hsp, hC1, hC2, hcu8, hrb8, hcg8, hmn8, hE, hZ, hn8, hXA, hV8, hSG, ece8, gce8, hcen8, hhdr8, hknn8, -⟩ := hXI
  have hN3 := RB_n3 hrb8
  have hE13 : ∀ h : Nat, h < 24 → 0 ≤ e8 13 h ∧ e8 13 h ≤ 100 := fun k hk => by
    obtain ⟨s, h1, h2, h3⟩ := hcu8.1.2.2.1
    exact ⟨(h3 k hk).1, (h3 k hk).2.1⟩
  have hXW := hXA.1
  have hXN := hXA.2
  have hE0 : e8 0 3 = d8 0 3 ∧ e8 0 0 = d8 0 0 := by
    have h := hE 0 (by decide)
    exact ⟨congrFun h 3, congrFun h 0⟩
  have u4210 := CU_k hcu8
  have h4211 : CY T H cu (d8 0 3) g8 (H cu 17) := ⟨hcg8, rfl⟩
  have h4212 : RY T H m (d8 0 3) g8 (H m 32) := ⟨hmn8, rfl⟩
  obtain ⟨t9, ht9⟩ : ∃ t : Int, t = H x 9 := ⟨_, rfl⟩
  obtain ⟨y9, hy9⟩ : ∃ y : Int, y = H 0 ((i + 1).toNat) := ⟨_, rfl⟩
  obtain ⟨r4213, q4214, g4215⟩ := hW.ref gx (t' := 6) (n := 13) (j := 2) (p := 0) (q := 0) rfl (by decide) rfl
  refine wl_of hX hb cL_1001 (xc_V (pc' := 1004) (r := x) (as := [vI (H 0 ((i + 1).toNat))]) (st := []) (lm_11_130) rfl rfl (Nat.le_of_ble_eq_true rfl) hW gx sh_1 (by decide) rfl (by decide) (u_112 (e := e8) (d := d8) (n := n8) hW gx ⟨by omega, by omega⟩ ecu gcu q4214 g4215 ece8 gce8 (by assumption) (by assumption) (by omega) (by omega) (by omega) (by omega) hcu8 hcen8 hhdr8) (fun R4216 T4217 H4218 p4219 => ?_))
  obtain ⟨e4220, w4222, f4223, z4224, e4221, b4225, p4226⟩ := p4219
  subst e4220
  subst e4221
  show WL _ _ _ _ 1004 [(4, vI i), (3, .ref o), (2, .ref m), (1, .ref x), (0, .ref 0)] [vL z4224] _ H4218
  refine wl_of hX hb cL_1004 (rw_pop2 (pc' := 1005) rfl rfl ?_)
  refine wl_of hX hb cL_1005 (rw_aload_n (pc' := 1006) (v := .ref m) rfl rfl rfl ?_)
  refine wl_of hX hb cL_1006 (rw_aload_n (pc' := 1007) (v := .ref 0) rfl rfl rfl ?_)
  refine wl_of hX hb cL_1007 (rw_iload (pc' := 1009) (z := i) rfl rfl ?_)
  refine wl_of hX hb cL_1009 (rw_iconst (pc' := 1010) rfl ?_)
  refine wl_of hX hb cL_1010 (rw_iadd (pc' := 1011) rfl ?_)
  have k4230 : H4218 0 ((i + 1).toNat) = H 0 ((i + 1).toNat) := (f4223 0 ((i + 1).toNat) _ g0 (wmem_s rfl))
  refine wl_of hX hb cL_1011 (xa_I (so := 0) (pc' := 1012) (a := 0) w4222 g0 (wsh_s _) (by omega) (wty_s _ _) (by omega) (by omega) rfl (fun b4228 b4229 => ?_))
  have k4231 : wKI H4218 m = wKI H m := (wKI_fr hW gm f4223 rfl)
  have k4232 : H4218 x 9 = H x 9 := (f4223 x 9 _ gx rfl)
  have k4233 : H4218 m 6 = H m 6 := (f4223 m 6 _ gm rfl)
  have k4234 : H4218 x 11 = H x 11 := (f4223 x 11 _ gx rfl)
  have k4235 : H4218 m 13 = H m 13 := (f4223 m 13 _ gm rfl)
  have k4236 : H4218 x 8 = H x 8 := (f4223 x 8 _ gx rfl)
  have k4237 : H4218 m 3 = H m 3 := (f4223 m 3 _ gm rfl)
  rw [show H4218 0 ((i + 1).toNat) = H 0 ((i + 1).toNat) by omega]
  have h4238 : RB T H4218 m e8 d8 := (RB_fr hW gm f4223 rfl hrb8)
  have h4239 : KNN T H4218 m e8 d8 := (KNN_fr hW gm f4223 rfl hknn8)
  refine wl_of hX hb cL_1012 (xc_V (pc' := 1015) (r := m) (as := [vI (H 0 ((i + 1).toNat))]) (st := []) (lm_11_134) rfl rfl (Nat.le_of_ble_eq_true rfl) w4222 gm sh_42 (by decide) rfl (by decide) (u_260 (e := e8) (d := d8) w4222 gm ⟨by omega, by omega⟩ (by omega) (by assumption) (by assumption) (by assumption) (by assumption) h4238 h4239) (fun R4240 T4241 H4242 p4243 => ?_))
  obtain ⟨e4244, w4246, f4247, z4248, e4245, b4249, p4250⟩ := p4243
  subst e4244
  subst e4245
  obtain ⟨a4251, a4252⟩ := p4250
  show WL _ _ _ _ 1015 [(4, vI i), (3, .ref o), (2, .ref m), (1, .ref x), (0, .ref 0)] [vL z4248] _ H4242
  refine wl_of hX hb cL_1015 (rw_pop2 (pc' := 1016) rfl rfl ?_)
  refine wl_of hX hb cL_1016 (rw_goto (p1 := 1653) (by decide) ?_)
  have k4253 : H4242 x 9 = H4218 x 9 := (f4247 x 9 _ gx rfl)
  have k4254 : H4242 m 6 = H4218 m 6 := (f4247 m 6 _ gm rfl)
  have k4255 : H4242 x 11 = H4218 x 11 := (f4247 x 11 _ gx rfl)
  have k4256 : H4242 m 13 = H4218 m 13 := (f4247 m 13 _ gm rfl)
  have k4257 : H4242 x 8 = H4218 x 8 := (f4247 x 8 _ gx rfl)
  have k4258 : H4242 m 3 = H4218 m 3 := (f4247 m 3 _ gm rfl)
  have k4259 : H4242 x 0 = H x 0 := ((f4247 x 0 _ gx rfl).trans (f4223 x 0 _ gx rfl))
  have q4260 : H4242 x 0 = (tc : Int) := k4259.trans e0
  have k4261 : H4242 m 5 = H m 5 := ((f4247 m 5 _ gm rfl).trans (f4223 m 5 _ gm rfl))
  have q4262 : H4242 m 5 = (tm : Int) := k4261.trans em
  have k4263 : H4242 x 6 = H x 6 := ((f4247 x 6 _ gx rfl).trans (f4223 x 6 _ gx rfl))
  have q4264 : H4242 x 6 = (cu : Int) := k4263.trans ecu
  have k4265 : H4242 x 7 = H x 7 := ((f4247 x 7 _ gx rfl).trans (f4223 x 7 _ gx rfl))
  have q4266 : H4242 x 7 = (dr : Int) := k4265.trans edr
  have h4267 : TP T H4242 tc B := (TP_fr w4222 gtc f4247 rfl (TP_fr hW gtc f4223 rfl htc))
  have h4268 : TM T H4242 tm B := (TM_fr w4222 gtm f4247 rfl (TM_fr hW gtm f4223 rfl htm))
  have h4269 : DD T H4242 cu  := (DD_fr w4222 gcu f4247 rfl (DD_fr hW gcu f4223 rfl hcu))
  have h4270 : DD T H4242 dr  := (DD_fr w4222 gdr f4247 rfl (DD_fr hW gdr f4223 rfl hdr))
  have h4271 : DE T H4242 cu  := (DE_fr w4222 gcu f4247 rfl (DE_fr hW gcu f4223 rfl hdec))
  have h4272 : DE T H4242 dr  := (DE_fr w4222 gdr f4247 rfl (DE_fr hW gdr f4223 rfl hded))
  have h4273 : SP T H4242 x C8 := (SP_fr w4222 gx f4247 rfl (SP_fr hW gx f4223 rfl hsp))
  have h4274 : CU T H4242 cu e8 d8 n8 := (CU_fr w4222 gcu f4247 rfl (CU_fr hW gcu f4223 rfl hcu8))
  have h4275 : CY T H4242 cu (d8 0 3) g8 (H cu 17) := (CY_fr w4222 gcu f4247 rfl (CY_fr hW gcu f4223 rfl h4211))
  have k4276 : H4242 x 3 = H x 3 := ((f4247 x 3 _ gx rfl).trans (f4223 x 3 _ gx rfl))
  have q4277 : H4242 x 3 = (ce8 : Int) := k4276.trans ece8
  have h4278 : CEN T H4242 ce8 e8 d8 := (CEN_fr w4222 gce8 f4247 rfl p4226)
  have h4279 : HDR T H4242 ce8  := (HDR_fr w4222 gce8 f4247 rfl (HDR_fr hW gce8 f4223 rfl hhdr8))
  have h4280 : RY T H4242 m (d8 0 3) g8 (H m 32) := (RY_fr w4222 gm f4247 rfl (RY_fr hW gm f4223 rfl h4212))
  have h4281 : RB T H4242 m e8 d8 := (RB_fr w4222 gm f4247 rfl h4238)
  exact WL.loc hX (by simp) (next T H4242 ⟨⟨w4246, g0, gx, gm, go, by omega, by omega⟩, ⟨_, tc, tm, cu, dr, _, _, _, _, _, ce8, q4260, gtc, h4267, q4262, gtm, h4268, q4264, gcu, q4266, gdr, h4269, h4270, h4271, h4272, h4273, hC1, hC2, h4274, h4281, (h4275).1, (h4280).1, hE, hZ, (by omega), (by assumption), (by omega), (by first | assumption | exact SG_0), q4277, gce8, h4278, h4279, a4252, gm⟩, by omega, by omega⟩ (by omega) (by omega))
set_option maxHeartbeats 4000000 in
theorem wl_c27 {kt : Nat → Option mc_E} {CB SB : Nat} {X : mc_S → Prop} {T : wq_T} {H : wq_H} {Len x m o : Nat} {i : Int} (hX : wlX kt CB SB X) (hb : T.2.1 ≤ CB ∧ T.2.2.1 ≤ SB) (hI : wlJ Len x m o T H) (hL : Len ≤ 3072) (hi : 0 ≤ i ∧ i + 6 ≤ Len) (hb2 : T.2.1 + 20 ≤ CB ∧ T.2.2.1 + 500 ≤ SB)  (next : ∀ T' H', wlJ Len x m o T' H' → T'.2.1 ≤ T.2.1 + 20 → T'.2.2.1 ≤ T.2.2.1 + 500 → WL kt CB SB X 1653 (wlL i x m o) [] T' H') : WL kt CB SB X 1019 (wlL i x m o) [] T H := by
  obtain ⟨⟨hW, g0, gx, gm, go, hK, hr⟩, hXI, hY1, hY2⟩ := hI
  refine wl_of hX hb cL_1019 (rw_aload_n (pc' := 1020) (v := .ref x) rfl rfl rfl ?_)
  refine wl_of hX hb cL_1020 (rw_aload_n (pc' := 1021) (v := .ref 0) rfl rfl rfl ?_)
  refine wl_of hX hb cL_1021 (rw_iload (pc' := 1023) (z := i) rfl rfl ?_)
  refine wl_of hX hb cL_1023 (rw_iconst (pc' := 1024) rfl ?_)
  refine wl_of hX hb cL_1024 (rw_iadd (pc' := 1025) rfl ?_)
  refine wl_of hX hb cL_1025 (xa_I (so := 0) (pc' := 1026) (a := 0) hW g0 (wsh_s _) (by omega) (wty_s _ _) (by omega) (by omega) rfl (fun b4282 b4283 => ?_))
  refine wl_of hX hb cL_1026 (rw_aload_n (pc' := 1027) (v := .ref 0) rfl rfl rfl ?_)
  refine wl_of hX hb cL_1027 (rw_iload (pc' := 1029) (z := i) rfl rfl ?_)
  refine wl_of hX hb cL_1029 (rw_iconst (pc' := 1030) rfl ?_)
  refine wl_of hX hb cL_1030 (rw_iadd (pc' := 1031) rfl ?_)
  refine wl_of hX hb cL_1031 (xa_I (so := 0) (pc' := 1032) (a := 0) hW g0 (wsh_s _) (by omega) (wty_s _ _) (by omega) (by omega) rfl (fun b4284 b4285 => ?_))
  obtain ⟨B, tc, tm, cu, dr, C8, e8, d8, n8, g8, ce8, e0, gtc, htc, em, gtm, htm, ecu, gcu, edr, gdr, hcu, hdr, hdec, hded, hsp, hC1, hC2, hcu8, hrb8, hcg8, hmn8, hE, hZ, hn8, hXA, hV8, hSG, ece8, gce8, hcen8, hhdr8, hknn8, -⟩ := hXI
  have hN3 := RB_n3 hrb8
  have hE13 : ∀ h : Nat, h < 24 → 0 ≤ e8 13 h ∧ e8 13 h ≤ 100 := fun k hk => by
    obtain ⟨s, h1, h2, h3⟩ := hcu8.1.2.2.1
    exact ⟨(h3 k hk).1, (h3 k hk).2.1⟩
  have hXW := hXA.1
  have hXN := hXA.2
  have hE0 : e8 0 3 = d8 0 3 ∧ e8 0 0 = d8 0 0 := by
    have h := hE 0 (by decide)
    exact ⟨congrFun h 3, congrFun h 0⟩
  have u4286 := CU_k hcu8
  have h4287 : CY T H cu (d8 0 3) g8 (H cu 17) := ⟨hcg8, rfl⟩
  have h4288 : RY T H m (d8 0 3) g8 (H m 32) := ⟨hmn8, rfl⟩
  obtain ⟨t9, ht9⟩ : ∃ t : Int, t = H x 9 := ⟨_, rfl⟩
  obtain ⟨y9, hy9⟩ : ∃ y : Int, y = H 0 ((i + 2).toNat) := ⟨_, rfl⟩
  obtain ⟨r4289, q4290, g4291⟩ := hW.ref gx (t' := 6) (n := 13) (j := 2) (p := 0) (q := 0) rfl (by decide) rfl
  refine wl_of hX hb cL_1032 (xc_V (pc' := 1035) (r := x) (as := [vI (H 0 ((i + 1).toNat)), vI (H 0 ((i + 2).toNat))]) (st := []) (lm_11_135) rfl rfl (Nat.le_of_ble_eq_true rfl) hW gx sh_1 (by decide) rfl (by decide) (u_114 (e := e8) (d := d8) (n := n8) hW gx ⟨by omega, by omega⟩ ⟨by omega, by omega⟩ ecu gcu q4290 g4291 ece8 gce8 (by assumption) (by assumption) (by omega) (by omega) (by omega) (by omega) hcu8 hcen8 hhdr8) (fun R4292 T4293 H4294 p4295 => ?_))
  obtain ⟨e4296, w4298, f4299, z4300, e4297, b4301, p4302⟩ := p4295
  subst e4296
  subst e4297
  show WL _ _ _ _ 1035 [(4, vI i), (3, .ref o), (2, .ref m), (1, .ref x), (0, .ref 0)] [vI z4300] _ H4294
  refine wl_of hX hb cL_1035 (rw_pop (pc' := 1036) rfl rfl ?_)
  refine wl_of hX hb cL_1036 (rw_aload_n (pc' := 1037) (v := .ref m) rfl rfl rfl ?_)
  refine wl_of hX hb cL_1037 (rw_aload_n (pc' := 1038) (v := .ref 0) rfl rfl rfl ?_)
  refine wl_of hX hb cL_1038 (rw_iload (pc' := 1040) (z := i) rfl rfl ?_)
  refine wl_of hX hb cL_1040 (rw_iconst (pc' := 1041) rfl ?_)
  refine wl_of hX hb cL_1041 (rw_iadd (pc' := 1042) rfl ?_)
  have k4306 : H4294 0 ((i + 1).toNat) = H 0 ((i + 1).toNat) := (f4299 0 ((i + 1).toNat) _ g0 (wmem_s rfl))
  refine wl_of hX hb cL_1042 (xa_I (so := 0) (pc' := 1043) (a := 0) w4298 g0 (wsh_s _) (by omega) (wty_s _ _) (by omega) (by omega) rfl (fun b4304 b4305 => ?_))
  refine wl_of hX hb cL_1043 (rw_aload_n (pc' := 1044) (v := .ref 0) rfl rfl rfl ?_)
  refine wl_of hX hb cL_1044 (rw_iload (pc' := 1046) (z := i) rfl rfl ?_)
  refine wl_of hX hb cL_1046 (rw_iconst (pc' := 1047) rfl ?_)
  refine wl_of hX hb cL_1047 (rw_iadd (pc' := 1048) rfl ?_)
  have k4309 : H4294 0 ((i + 2).toNat) = H 0 ((i + 2).toNat) := (f4299 0 ((i + 2).toNat) _ g0 (wmem_s rfl))
  refine wl_of hX hb cL_1048 (xa_I (so := 0) (pc' := 1049) (a := 0) w4298 g0 (wsh_s _) (by omega) (wty_s _ _) (by omega) (by omega) rfl (fun b4307 b4308 => ?_))
  have k4310 : wKI H4294 m = wKI H m := (wKI_fr hW gm f4299 rfl)
  have k4311 : H4294 x 9 = H x 9 := (f4299 x 9 _ gx rfl)
  have k4312 : H4294 m 6 = H m 6 := (f4299 m 6 _ gm rfl)
  have k4313 : H4294 x 11 = H x 11 := (f4299 x 11 _ gx rfl)
  have k4314 : H4294 m 13 = H m 13 := (f4299 m 13 _ gm rfl)
  have k4315 : H4294 x 8 = H x 8 := (f4299 x 8 _ gx rfl)
  have k4316 : H4294 m 3 = H m 3 := (f4299 m 3 _ gm rfl)
  rw [show H4294 0 ((i + 2).toNat) = H 0 ((i + 2).toNat) by omega]
  rw [show H4294 0 ((i + 1).toNat) = H 0 ((i + 1).toNat) by omega]
  have h4317 : RB T H4294 m e8 d8 := (RB_fr hW gm f4299 rfl hrb8)
  have h4318 : KNN T H4294 m e8 d8 := (KNN_fr hW gm f4299 rfl hknn8)
  refine wl_of hX hb cL_1049 (xc_V (pc' := 1052) (r := m) (as := [vI (H 0 ((i + 1).toNat)), vI (H 0 ((i + 2).toNat))]) (st := []) (lm_11_138) rfl rfl (Nat.le_of_ble_eq_true rfl) w4298 gm sh_42 (by decide) rfl (by decide) (u_261 (e := e8) (d := d8) w4298 gm ⟨by omega, by omega⟩ ⟨by omega, by omega⟩ (by omega) (by assumption) (by assumption) (by assumption) (by assumption) h4317 h4318) (fun R4319 T4320 H4321 p4322 => ?_))
  obtain ⟨e4323, w4325, f4326, z4327, e4324, b4328, p4329⟩ := p4322
  subst e4323
  subst e4324
  obtain ⟨a4330, a4331⟩ := p4329
  show WL _ _ _ _ 1052 [(4, vI i), (3, .ref o), (2, .ref m), (1, .ref x), (0, .ref 0)] [vI z4327] _ H4321
  refine wl_of hX hb cL_1052 (rw_pop (pc' := 1053) rfl rfl ?_)
  refine wl_of hX hb cL_1053 (rw_goto (p1 := 1653) (by decide) ?_)
  have k4332 : H4321 x 9 = H4294 x 9 := (f4326 x 9 _ gx rfl)
  have k4333 : H4321 m 6 = H4294 m 6 := (f4326 m 6 _ gm rfl)
  have k4334 : H4321 x 11 = H4294 x 11 := (f4326 x 11 _ gx rfl)
  have k4335 : H4321 m 13 = H4294 m 13 := (f4326 m 13 _ gm rfl)
  have k4336 : H4321 x 8 = H4294 x 8 := (f4326 x 8 _ gx rfl)
  have k4337 : H4321 m 3 = H4294 m 3 := (f4326 m 3 _ gm rfl)
  have k4338 : H4321 x 0 = H x 0 := ((f4326 x 0 _ gx rfl).trans (f4299 x 0 _ gx rfl))
  have q4339 : H4321 x 0 = (tc : Int) := k4338.trans e0
  have k4340 : H4321 m 5 = H m 5 := ((f4326 m 5 _ gm rfl).trans (f4299 m 5 _ gm rfl))
  have q4341 : H4321 m 5 = (tm : Int) := k4340.trans em
  have k4342 : H4321 x 6 = H x 6 := ((f4326 x 6 _ gx rfl).trans (f4299 x 6 _ gx rfl))
  have q4343 : H4321 x 6 = (cu : Int) := k4342.trans ecu
  have k4344 : H4321 x 7 = H x 7 := ((f4326 x 7 _ gx rfl).trans (f4299 x 7 _ gx rfl))
  have q4345 : H4321 x 7 = (dr : Int) := k4344.trans edr
  have h4346 : TP T H4321 tc B := (TP_fr w4298 gtc f4326 rfl (TP_fr hW gtc f4299 rfl htc))
  have h4347 : TM T H4321 tm B := (TM_fr w4298 gtm f4326 rfl (TM_fr hW gtm f4299 rfl htm))
  have h4348 : DD T H4321 cu  := (DD_fr w4298 gcu f4326 rfl (DD_fr hW gcu f4299 rfl hcu))
  have h4349 : DD T H4321 dr  := (DD_fr w4298 gdr f4326 rfl (DD_fr hW gdr f4299 rfl hdr))
  have h4350 : DE T H4321 cu  := (DE_fr w4298 gcu f4326 rfl (DE_fr hW gcu f4299 rfl hdec))
  have h4351 : DE T H4321 dr  := (DE_fr w4298 gdr f4326 rfl (DE_fr hW gdr f4299 rfl hded))
  have h4352 : SP T H4321 x C8 := (SP_fr w4298 gx f4326 rfl (SP_fr hW gx f4299 rfl hsp))
  have h4353 : CU T H4321 cu e8 d8 n8 := (CU_fr w4298 gcu f4326 rfl (CU_fr hW gcu f4299 rfl hcu8))
  have h4354 : CY T H4321 cu (d8 0 3) g8 (H cu 17) := (CY_fr w4298 gcu f4326 rfl (CY_fr hW gcu f4299 rfl h4287))
  have k4355 : H4321 x 3 = H x 3 := ((f4326 x 3 _ gx rfl).trans (f4299 x 3 _ gx rfl))
  have q4356 : H4321 x 3 = (ce8 : Int) := k4355.trans ece8
  have h4357 : CEN T H4321 ce8 e8 d8 := (CEN_fr w4298 gce8 f4326 rfl p4302)
  have h4358 : HDR T H4321 ce8  := (HDR_fr w4298 gce8 f4326 rfl (HDR_fr hW gce8 f4299 rfl hhdr8))
  have h4359 : RY T H4321 m (d8 0 3) g8 (H m 32) := (RY_fr w4298 gm f4326 rfl (RY_fr hW gm f4299 rfl h4288))
  have h4360 : RB T H4321 m e8 d8 := (RB_fr w4298 gm f4326 rfl h4317)
  exact WL.loc hX (by simp) (next T H4321 ⟨⟨w4325, g0, gx, gm, go, by omega, by omega⟩, ⟨_, tc, tm, cu, dr, _, _, _, _, _, ce8, q4339, gtc, h4346, q4341, gtm, h4347, q4343, gcu, q4345, gdr, h4348, h4349, h4350, h4351, h4352, hC1, hC2, h4353, h4360, (h4354).1, (h4359).1, hE, hZ, (by omega), (by assumption), (by omega), (by first | assumption | exact SG_0), q4356, gce8, h4357, h4358, a4331, gm⟩, by omega, by omega⟩ (by omega) (by omega))
set_option maxHeartbeats 4000000 in
theorem wl_c28 {kt : Nat → Option mc_E} {CB SB : Nat} {X : mc_S → Prop} {T : wq_T} {H : wq_H} {Len x m o : Nat} {i : Int} (hX : wlX kt CB SB X) (hb : T.2.1 ≤ CB ∧ T.2.2.1 ≤ SB) (hI : wlJ Len x m o T H) (hL : Len ≤ 3072) (hi : 0 ≤ i ∧ i + 6 ≤ Len) (hb2 : T.2.1 + 20 ≤ CB ∧ T.2.2.1 + 500 ≤ SB)  (next : ∀ T' H', wlJ Len x m o T' H' → T'.2.1 ≤ T.2.1 + 20 → T'.2.2.1 ≤ T.2.2.1 + 500 → WL kt CB SB X 1653 (wlL i x m o) [] T' H') : WL kt CB SB X 1056 (wlL i x m o) [] T H := by
  obtain ⟨⟨hW, g0, gx, gm, go, hK, hr⟩, hXI, hY1, hY2⟩ := hI
  refine wl_of hX hb cL_1056 (rw_aload_n (pc' := 1057) (v := .ref x) rfl rfl rfl ?_)
  refine wl_of hX hb cL_1057 (rw_aload_n (pc' := 1058) (v := .ref 0) rfl rfl rfl ?_)
  refine wl_of hX hb cL_1058 (rw_iload (pc' := 1060) (z := i) rfl rfl ?_)
  refine wl_of hX hb cL_1060 (rw_iconst (pc' := 1061) rfl ?_)
  refine wl_of hX hb cL_1061 (rw_iadd (pc' := 1062) rfl ?_)
  refine wl_of hX hb cL_1062 (xa_I (so := 0) (pc' := 1063) (a := 0) hW g0 (wsh_s _) (by omega) (wty_s _ _) (by omega) (by omega) rfl (fun b4361 b4362 => ?_))
  refine wl_of hX hb cL_1063 (rw_aload_n (pc' := 1064) (v := .ref 0) rfl rfl rfl ?_)
  refine wl_of hX hb cL_1064 (rw_iload (pc' := 1066) (z := i) rfl rfl ?_)
  refine wl_of hX hb cL_1066 (rw_iconst (pc' := 1067) rfl ?_)
  refine wl_of hX hb cL_1067 (rw_iadd (pc' := 1068) rfl ?_)
  refine wl_of hX hb cL_1068 (xa_I (so := 0) (pc' := 1069) (a := 0) hW g0 (wsh_s _) (by omega) (wty_s _ _) (by omega) (by omega) rfl (fun b4363 b4364 => ?_))
  refine wl_of hX hb cL_1069 (rw_if_eq (p1 := 1076) (p2 := 1072) (by decide) rfl ⟨by omega, by omega⟩ (fun c4365 => ?_) (fun c4365 => ?_))
  · refine wl_of hX hb cL_1076 (rw_iconst (pc' := 1077) rfl ?_)
    obtain ⟨B, tc, tm, cu, dr, C8, e8, d8, n8, g8, ce8, e0, gtc, htc, em, gtm, htm, ecu, gcu, edr, gdr, hcu, hdr, hdec, hded, hsp, hC1, hC2, hcu8, hrb8, hcg8, hmn8, hE, hZ, hn8, hXA, hV8, hSG, ece8, gce8, hcen8, hhdr8, hknn8, -⟩ := hXI
    have hN3 := RB_n3 hrb8
    have hE13 : ∀ h : Nat, h < 24 → 0 ≤ e8 13 h ∧ e8 13 h ≤ 100 := fun k hk => by
      obtain ⟨s, h1, h2, h3⟩ := hcu8.1.2.2.1
      exact ⟨(h3 k hk).1, (h3 k hk).2.1⟩
    have hXW := hXA.1
    have hXN := hXA.2
    have hE0 : e8 0 3 = d8 0 3 ∧ e8 0 0 = d8 0 0 := by
      have h := hE 0 (by decide)
      exact ⟨congrFun h 3, congrFun h 0⟩
    have u4366 := CU_k hcu8
    have h4367 : CY T H cu (d8 0 3) g8 (H cu 17) := ⟨hcg8, rfl⟩
    have h4368 : RY T H m (d8 0 3) g8 (H m 32) := ⟨hmn8, rfl⟩
    obtain ⟨t9, ht9⟩ : ∃ t : Int, t = H x 9 := ⟨_, rfl⟩
    obtain ⟨y9, hy9⟩ : ∃ y : Int, y = 0 := ⟨_, rfl⟩
    obtain ⟨r4369, q4370, g4371⟩ := hW.ref gx (t' := 6) (n := 13) (j := 2) (p := 0) (q := 0) rfl (by decide) rfl
    refine wl_of hX hb cL_1077 (xc_V (pc' := 1080) (r := x) (as := [vI (H 0 ((i + 1).toNat)), vI 0]) (st := []) (lm_11_139) rfl rfl (Nat.le_of_ble_eq_true rfl) hW gx sh_1 (by decide) rfl (by decide) (u_117 (e := e8) (d := d8) (n := n8) hW gx ⟨by omega, by omega⟩ ⟨by decide, by decide⟩ ecu gcu q4370 g4371 ece8 gce8 (by assumption) (by assumption) (by omega) (by omega) (by omega) (by omega) hcu8 hcen8 hhdr8) (fun R4372 T4373 H4374 p4375 => ?_))
    obtain ⟨e4376, w4378, f4379, z4380, e4377, b4381, p4382⟩ := p4375
    subst e4376
    subst e4377
    show WL _ _ _ _ 1080 [(4, vI i), (3, .ref o), (2, .ref m), (1, .ref x), (0, .ref 0)] [vI z4380] _ H4374
    refine wl_of hX hb cL_1080 (rw_pop (pc' := 1081) rfl rfl ?_)
    refine wl_of hX hb cL_1081 (rw_aload_n (pc' := 1082) (v := .ref m) rfl rfl rfl ?_)
    refine wl_of hX hb cL_1082 (rw_aload_n (pc' := 1083) (v := .ref 0) rfl rfl rfl ?_)
    refine wl_of hX hb cL_1083 (rw_iload (pc' := 1085) (z := i) rfl rfl ?_)
    refine wl_of hX hb cL_1085 (rw_iconst (pc' := 1086) rfl ?_)
    refine wl_of hX hb cL_1086 (rw_iadd (pc' := 1087) rfl ?_)
    have k4386 : H4374 0 ((i + 1).toNat) = H 0 ((i + 1).toNat) := (f4379 0 ((i + 1).toNat) _ g0 (wmem_s rfl))
    refine wl_of hX hb cL_1087 (xa_I (so := 0) (pc' := 1088) (a := 0) w4378 g0 (wsh_s _) (by omega) (wty_s _ _) (by omega) (by omega) rfl (fun b4384 b4385 => ?_))
    refine wl_of hX hb cL_1088 (rw_aload_n (pc' := 1089) (v := .ref 0) rfl rfl rfl ?_)
    refine wl_of hX hb cL_1089 (rw_iload (pc' := 1091) (z := i) rfl rfl ?_)
    refine wl_of hX hb cL_1091 (rw_iconst (pc' := 1092) rfl ?_)
    refine wl_of hX hb cL_1092 (rw_iadd (pc' := 1093) rfl ?_)
    have k4389 : H4374 0 ((i + 2).toNat) = H 0 ((i + 2).toNat) := (f4379 0 ((i + 2).toNat) _ g0 (wmem_s rfl))
    refine wl_of hX hb cL_1093 (xa_I (so := 0) (pc' := 1094) (a := 0) w4378 g0 (wsh_s _) (by omega) (wty_s _ _) (by omega) (by omega) rfl (fun b4387 b4388 => ?_))
    refine wl_of hX hb cL_1094 (rw_if_eq (p1 := 1101) (p2 := 1097) (by decide) rfl ⟨by omega, by omega⟩ (fun c4390 => ?_) (fun c4390 => ?_))
    · refine wl_of hX hb cL_1101 (rw_iconst (pc' := 1102) rfl ?_)
      have k4391 : wKI H4374 m = wKI H m := (wKI_fr hW gm f4379 rfl)
      have k4392 : H4374 x 9 = H x 9 := (f4379 x 9 _ gx rfl)
      have k4393 : H4374 m 6 = H m 6 := (f4379 m 6 _ gm rfl)
      have k4394 : H4374 x 11 = H x 11 := (f4379 x 11 _ gx rfl)
      have k4395 : H4374 m 13 = H m 13 := (f4379 m 13 _ gm rfl)
      have k4396 : H4374 x 8 = H x 8 := (f4379 x 8 _ gx rfl)
      have k4397 : H4374 m 3 = H m 3 := (f4379 m 3 _ gm rfl)
      rw [show H4374 0 ((i + 1).toNat) = H 0 ((i + 1).toNat) by omega]
      have h4398 : RB T H4374 m e8 d8 := (RB_fr hW gm f4379 rfl hrb8)
      have h4399 : KNN T H4374 m e8 d8 := (KNN_fr hW gm f4379 rfl hknn8)
      refine wl_of hX hb cL_1102 (xc_V (pc' := 1105) (r := m) (as := [vI (H 0 ((i + 1).toNat)), vI 0]) (st := []) (lm_11_142) rfl rfl (Nat.le_of_ble_eq_true rfl) w4378 gm sh_42 (by decide) rfl (by decide) (u_263 (e := e8) (d := d8) w4378 gm ⟨by omega, by omega⟩ ⟨by decide, by decide⟩ (by omega) (by assumption) (by assumption) (by assumption) (by assumption) h4398 h4399) (fun R4400 T4401 H4402 p4403 => ?_))
      obtain ⟨e4404, w4406, f4407, z4408, e4405, b4409, p4410⟩ := p4403
      subst e4404
      subst e4405
      obtain ⟨a4411, a4412⟩ := p4410
      show WL _ _ _ _ 1105 [(4, vI i), (3, .ref o), (2, .ref m), (1, .ref x), (0, .ref 0)] [vI z4408] _ H4402
      refine wl_of hX hb cL_1105 (rw_pop (pc' := 1106) rfl rfl ?_)
      refine wl_of hX hb cL_1106 (rw_goto (p1 := 1653) (by decide) ?_)
      have k4413 : H4402 x 9 = H4374 x 9 := (f4407 x 9 _ gx rfl)
      have k4414 : H4402 m 6 = H4374 m 6 := (f4407 m 6 _ gm rfl)
      have k4415 : H4402 x 11 = H4374 x 11 := (f4407 x 11 _ gx rfl)
      have k4416 : H4402 m 13 = H4374 m 13 := (f4407 m 13 _ gm rfl)
      have k4417 : H4402 x 8 = H4374 x 8 := (f4407 x 8 _ gx rfl)
      have k4418 : H4402 m 3 = H4374 m 3 := (f4407 m 3 _ gm rfl)
      have k4419 : H4402 x 0 = H x 0 := ((f4407 x 0 _ gx rfl).trans (f4379 x 0 _ gx rfl))
      have q4420 : H4402 x 0 = (tc : Int) := k4419.trans e0
      have k4421 : H4402 m 5 = H m 5 := ((f4407 m 5 _ gm rfl).trans (f4379 m 5 _ gm rfl))
      have q4422 : H4402 m 5 = (tm : Int) := k4421.trans em
      have k4423 : H4402 x 6 = H x 6 := ((f4407 x 6 _ gx rfl).trans (f4379 x 6 _ gx rfl))
      have q4424 : H4402 x 6 = (cu : Int) := k4423.trans ecu
      have k4425 : H4402 x 7 = H x 7 := ((f4407 x 7 _ gx rfl).trans (f4379 x 7 _ gx rfl))
      have q4426 : H4402 x 7 = (dr : Int) := k4425.trans edr
      have h4427 : TP T H4402 tc B := (TP_fr w4378 gtc f4407 rfl (TP_fr hW gtc f4379 rfl htc))
      have h4428 : TM T H4402 tm B := (TM_fr w4378 gtm f4407 rfl (TM_fr hW gtm f4379 rfl htm))
      have h4429 : DD T H4402 cu  := (DD_fr w4378 gcu f4407 rfl (DD_fr hW gcu f4379 rfl hcu))
      have h4430 : DD T H4402 dr  := (DD_fr w4378 gdr f4407 rfl (DD_fr hW gdr f4379 rfl hdr))
      have h4431 : DE T H4402 cu  := (DE_fr w4378 gcu f4407 rfl (DE_fr hW gcu f4379 rfl hdec))
      have h4432 : DE T H4402 dr  := (DE_fr w4378 gdr f4407 rfl (DE_fr hW gdr f4379 rfl hded))
      have h4433 : SP T H4402 x C8 := (SP_fr w4378 gx f4407 rfl (SP_fr hW gx f4379 rfl hsp))
      have h4434 : CU T H4402 cu e8 d8 n8 := (CU_fr w4378 gcu f4407 rfl (CU_fr hW gcu f4379 rfl hcu8))
      have h4435 : CY T H4402 cu (d8 0 3) g8 (H cu 17) := (CY_fr w4378 gcu f4407 rfl (CY_fr hW gcu f4379 rfl h4367))
      have k4436 : H4402 x 3 = H x 3 := ((f4407 x 3 _ gx rfl).trans (f4379 x 3 _ gx rfl))
      have q4437 : H4402 x 3 = (ce8 : Int) := k4436.trans ece8
      have h4438 : CEN T H4402 ce8 e8 d8 := (CEN_fr w4378 gce8 f4407 rfl p4382)
      have h4439 : HDR T H4402 ce8  := (HDR_fr w4378 gce8 f4407 rfl (HDR_fr hW gce8 f4379 rfl hhdr8))
      have h4440 : RY T H4402 m (d8 0 3) g8 (H m 32) := (RY_fr w4378 gm f4407 rfl (RY_fr hW gm f4379 rfl h4368))
      have h4441 : RB T H4402 m e8 d8 := (RB_fr w4378 gm f4407 rfl h4398)
      exact WL.loc hX (by simp) (next T H4402 ⟨⟨w4406, g0, gx, gm, go, by omega, by omega⟩, ⟨_, tc, tm, cu, dr, _, _, _, _, _, ce8, q4420, gtc, h4427, q4422, gtm, h4428, q4424, gcu, q4426, gdr, h4429, h4430, h4431, h4432, h4433, hC1, hC2, h4434, h4441, (h4435).1, (h4440).1, hE, hZ, (by omega), (by assumption), (by omega), (by first | assumption | exact SG_0), q4437, gce8, h4438, h4439, a4412, gm⟩, by omega, by omega⟩ (by omega) (by omega))
    · exfalso
      omega
  · refine wl_of hX hb cL_1072 (rw_iconst (pc' := 1073) rfl ?_)
    refine wl_of hX hb cL_1073 (rw_goto (p1 := 1077) (by decide) ?_)
    obtain ⟨B, tc, tm, cu, dr, C8, e8, d8, n8, g8, ce8, e0, gtc, htc, em, gtm, htm, ecu, gcu, edr, gdr, hcu, hdr, hdec, hded, hsp, hC1, hC2, hcu8, hrb8, hcg8, hmn8, hE, hZ, hn8, hXA, hV8, hSG, ece8, gce8, hcen8, hhdr8, hknn8, -⟩ := hXI
    have hN3 := RB_n3 hrb8
    have hE13 : ∀ h : Nat, h < 24 → 0 ≤ e8 13 h ∧ e8 13 h ≤ 100 := fun k hk => by
      obtain ⟨s, h1, h2, h3⟩ := hcu8.1.2.2.1
      exact ⟨(h3 k hk).1, (h3 k hk).2.1⟩
    have hXW := hXA.1
    have hXN := hXA.2
    have hE0 : e8 0 3 = d8 0 3 ∧ e8 0 0 = d8 0 0 := by
      have h := hE 0 (by decide)
      exact ⟨congrFun h 3, congrFun h 0⟩
    have u4442 := CU_k hcu8
    have h4443 : CY T H cu (d8 0 3) g8 (H cu 17) := ⟨hcg8, rfl⟩
    have h4444 : RY T H m (d8 0 3) g8 (H m 32) := ⟨hmn8, rfl⟩
    obtain ⟨t9, ht9⟩ : ∃ t : Int, t = H x 9 := ⟨_, rfl⟩
    obtain ⟨y9, hy9⟩ : ∃ y : Int, y = 1 := ⟨_, rfl⟩
    obtain ⟨r4445, q4446, g4447⟩ := hW.ref gx (t' := 6) (n := 13) (j := 2) (p := 0) (q := 0) rfl (by decide) rfl
    refine wl_of hX hb cL_1077 (xc_V (pc' := 1080) (r := x) (as := [vI (H 0 ((i + 1).toNat)), vI 1]) (st := []) (lm_11_139) rfl rfl (Nat.le_of_ble_eq_true rfl) hW gx sh_1 (by decide) rfl (by decide) (u_117 (e := e8) (d := d8) (n := n8) hW gx ⟨by omega, by omega⟩ ⟨by decide, by decide⟩ ecu gcu q4446 g4447 ece8 gce8 (by assumption) (by assumption) (by omega) (by omega) (by omega) (by omega) hcu8 hcen8 hhdr8) (fun R4448 T4449 H4450 p4451 => ?_))
    obtain ⟨e4452, w4454, f4455, z4456, e4453, b4457, p4458⟩ := p4451
    subst e4452
    subst e4453
    show WL _ _ _ _ 1080 [(4, vI i), (3, .ref o), (2, .ref m), (1, .ref x), (0, .ref 0)] [vI z4456] _ H4450
    refine wl_of hX hb cL_1080 (rw_pop (pc' := 1081) rfl rfl ?_)
    refine wl_of hX hb cL_1081 (rw_aload_n (pc' := 1082) (v := .ref m) rfl rfl rfl ?_)
    refine wl_of hX hb cL_1082 (rw_aload_n (pc' := 1083) (v := .ref 0) rfl rfl rfl ?_)
    refine wl_of hX hb cL_1083 (rw_iload (pc' := 1085) (z := i) rfl rfl ?_)
    refine wl_of hX hb cL_1085 (rw_iconst (pc' := 1086) rfl ?_)
    refine wl_of hX hb cL_1086 (rw_iadd (pc' := 1087) rfl ?_)
    have k4462 : H4450 0 ((i + 1).toNat) = H 0 ((i + 1).toNat) := (f4455 0 ((i + 1).toNat) _ g0 (wmem_s rfl))
    refine wl_of hX hb cL_1087 (xa_I (so := 0) (pc' := 1088) (a := 0) w4454 g0 (wsh_s _) (by omega) (wty_s _ _) (by omega) (by omega) rfl (fun b4460 b4461 => ?_))
    refine wl_of hX hb cL_1088 (rw_aload_n (pc' := 1089) (v := .ref 0) rfl rfl rfl ?_)
    refine wl_of hX hb cL_1089 (rw_iload (pc' := 1091) (z := i) rfl rfl ?_)
    refine wl_of hX hb cL_1091 (rw_iconst (pc' := 1092) rfl ?_)
    refine wl_of hX hb cL_1092 (rw_iadd (pc' := 1093) rfl ?_)
    have k4465 : H4450 0 ((i + 2).toNat) = H 0 ((i + 2).toNat) := (f4455 0 ((i + 2).toNat) _ g0 (wmem_s rfl))
    refine wl_of hX hb cL_1093 (xa_I (so := 0) (pc' := 1094) (a := 0) w4454 g0 (wsh_s _) (by omega) (wty_s _ _) (by omega) (by omega) rfl (fun b4463 b4464 => ?_))
    refine wl_of hX hb cL_1094 (rw_if_eq (p1 := 1101) (p2 := 1097) (by decide) rfl ⟨by omega, by omega⟩ (fun c4466 => ?_) (fun c4466 => ?_))
    · refine wl_of hX hb cL_1101 (rw_iconst (pc' := 1102) rfl ?_)
      have k4467 : wKI H4450 m = wKI H m := (wKI_fr hW gm f4455 rfl)
      have k4468 : H4450 x 9 = H x 9 := (f4455 x 9 _ gx rfl)
      have k4469 : H4450 m 6 = H m 6 := (f4455 m 6 _ gm rfl)
      have k4470 : H4450 x 11 = H x 11 := (f4455 x 11 _ gx rfl)
      have k4471 : H4450 m 13 = H m 13 := (f4455 m 13 _ gm rfl)
      have k4472 : H4450 x 8 = H x 8 := (f4455 x 8 _ gx rfl)
      have k4473 : H4450 m 3 = H m 3 := (f4455 m 3 _ gm rfl)
      rw [show H4450 0 ((i + 1).toNat) = H 0 ((i + 1).toNat) by omega]
      have h4474 : RB T H4450 m e8 d8 := (RB_fr hW gm f4455 rfl hrb8)
      have h4475 : KNN T H4450 m e8 d8 := (KNN_fr hW gm f4455 rfl hknn8)
      refine wl_of hX hb cL_1102 (xc_V (pc' := 1105) (r := m) (as := [vI (H 0 ((i + 1).toNat)), vI 0]) (st := []) (lm_11_142) rfl rfl (Nat.le_of_ble_eq_true rfl) w4454 gm sh_42 (by decide) rfl (by decide) (u_263 (e := e8) (d := d8) w4454 gm ⟨by omega, by omega⟩ ⟨by decide, by decide⟩ (by omega) (by assumption) (by assumption) (by assumption) (by assumption) h4474 h4475) (fun R4476 T4477 H4478 p4479 => ?_))
      obtain ⟨e4480, w4482, f4483, z4484, e4481, b4485, p4486⟩ := p4479
      subst e4480
      subst e4481
      obtain ⟨a4487, a4488⟩ := p4486
      show WL _ _ _ _ 1105 [(4, vI i), (3, .ref o), (2, .ref m), (1, .ref x), (0, .ref 0)] [vI z4484] _ H4478
      refine wl_of hX hb cL_1105 (rw_pop (pc' := 1106) rfl rfl ?_)
      refine wl_of hX hb cL_1106 (rw_goto (p1 := 1653) (by decide) ?_)
      have k4489 : H4478 x 9 = H4450 x 9 := (f4483 x 9 _ gx rfl)
      have k4490 : H4478 m 6 = H4450 m 6 := (f4483 m 6 _ gm rfl)
      have k4491 : H4478 x 11 = H4450 x 11 := (f4483 x 11 _ gx rfl)
      have k4492 : H4478 m 13 = H4450 m 13 := (f4483 m 13 _ gm rfl)
      have k4493 : H4478 x 8 = H4450 x 8 := (f4483 x 8 _ gx rfl)
      have k4494 : H4478 m 3 = H4450 m 3 := (f4483 m 3 _ gm rfl)
      have k4495 : H4478 x 0 = H x 0 := ((f4483 x 0 _ gx rfl).trans (f4455 x 0 _ gx rfl))
      have q4496 : H4478 x 0 = (tc : Int) := k4495.trans e0
      have k4497 : H4478 m 5 = H m 5 := ((f4483 m 5 _ gm rfl).trans (f4455 m 5 _ gm rfl))
      have q4498 : H4478 m 5 = (tm : Int) := k4497.trans em
      have k4499 : H4478 x 6 = H x 6 := ((f4483 x 6 _ gx rfl).trans (f4455 x 6 _ gx rfl))
      have q4500 : H4478 x 6 = (cu : Int) := k4499.trans ecu
      have k4501 : H4478 x 7 = H x 7 := ((f4483 x 7 _ gx rfl).trans (f4455 x 7 _ gx rfl))
      have q4502 : H4478 x 7 = (dr : Int) := k4501.trans edr
      have h4503 : TP T H4478 tc B := (TP_fr w4454 gtc f4483 rfl (TP_fr hW gtc f4455 rfl htc))
      have h4504 : TM T H4478 tm B := (TM_fr w4454 gtm f4483 rfl (TM_fr hW gtm f4455 rfl htm))
      have h4505 : DD T H4478 cu  := (DD_fr w4454 gcu f4483 rfl (DD_fr hW gcu f4455 rfl hcu))
      have h4506 : DD T H4478 dr  := (DD_fr w4454 gdr f4483 rfl (DD_fr hW gdr f4455 rfl hdr))
      have h4507 : DE T H4478 cu  := (DE_fr w4454 gcu f4483 rfl (DE_fr hW gcu f4455 rfl hdec))
      have h4508 : DE T H4478 dr  := (DE_fr w4454 gdr f4483 rfl (DE_fr hW gdr f4455 rfl hded))
      have h4509 : SP T H4478 x C8 := (SP_fr w4454 gx f4483 rfl (SP_fr hW gx f4455 rfl hsp))
      have h4510 : CU T H4478 cu e8 d8 n8 := (CU_fr w4454 gcu f4483 rfl (CU_fr hW gcu f4455 rfl hcu8))
      have h4511 : CY T H4478 cu (d8 0 3) g8 (H cu 17) := (CY_fr w4454 gcu f4483 rfl (CY_fr hW gcu f4455 rfl h4443))
      have k4512 : H4478 x 3 = H x 3 := ((f4483 x 3 _ gx rfl).trans (f4455 x 3 _ gx rfl))
      have q4513 : H4478 x 3 = (ce8 : Int) := k4512.trans ece8
      have h4514 : CEN T H4478 ce8 e8 d8 := (CEN_fr w4454 gce8 f4483 rfl p4458)
      have h4515 : HDR T H4478 ce8  := (HDR_fr w4454 gce8 f4483 rfl (HDR_fr hW gce8 f4455 rfl hhdr8))
      have h4516 : RY T H4478 m (d8 0 3) g8 (H m 32) := (RY_fr w4454 gm f4483 rfl (RY_fr hW gm f4455 rfl h4444))
      have h4517 : RB T H4478 m e8 d8 := (RB_fr w4454 gm f4483 rfl h4474)
      exact WL.loc hX (by simp) (next T H4478 ⟨⟨w4482, g0, gx, gm, go, by omega, by omega⟩, ⟨_, tc, tm, cu, dr, _, _, _, _, _, ce8, q4496, gtc, h4503, q4498, gtm, h4504, q4500, gcu, q4502, gdr, h4505, h4506, h4507, h4508, h4509, hC1, hC2, h4510, h4517, (h4511).1, (h4516).1, hE, hZ, (by omega), (by assumption), (by omega), (by first | assumption | exact SG_0), q4513, gce8, h4514, h4515, a4488, gm⟩, by omega, by omega⟩ (by omega) (by omega))
    · refine wl_of hX hb cL_1097 (rw_iconst (pc' := 1098) rfl ?_)
      refine wl_of hX hb cL_1098 (rw_goto (p1 := 1102) (by decide) ?_)
      have k4518 : wKI H4450 m = wKI H m := (wKI_fr hW gm f4455 rfl)
      have k4519 : H4450 x 9 = H x 9 := (f4455 x 9 _ gx rfl)
      have k4520 : H4450 m 6 = H m 6 := (f4455 m 6 _ gm rfl)
      have k4521 : H4450 x 11 = H x 11 := (f4455 x 11 _ gx rfl)
      have k4522 : H4450 m 13 = H m 13 := (f4455 m 13 _ gm rfl)
      have k4523 : H4450 x 8 = H x 8 := (f4455 x 8 _ gx rfl)
      have k4524 : H4450 m 3 = H m 3 := (f4455 m 3 _ gm rfl)
      rw [show H4450 0 ((i + 1).toNat) = H 0 ((i + 1).toNat) by omega]
      have h4525 : RB T H4450 m e8 d8 := (RB_fr hW gm f4455 rfl hrb8)
      have h4526 : KNN T H4450 m e8 d8 := (KNN_fr hW gm f4455 rfl hknn8)
      refine wl_of hX hb cL_1102 (xc_V (pc' := 1105) (r := m) (as := [vI (H 0 ((i + 1).toNat)), vI 1]) (st := []) (lm_11_142) rfl rfl (Nat.le_of_ble_eq_true rfl) w4454 gm sh_42 (by decide) rfl (by decide) (u_263 (e := e8) (d := d8) w4454 gm ⟨by omega, by omega⟩ ⟨by decide, by decide⟩ (by omega) (by assumption) (by assumption) (by assumption) (by assumption) h4525 h4526) (fun R4527 T4528 H4529 p4530 => ?_))
      obtain ⟨e4531, w4533, f4534, z4535, e4532, b4536, p4537⟩ := p4530
      subst e4531
      subst e4532
      obtain ⟨a4538, a4539⟩ := p4537
      show WL _ _ _ _ 1105 [(4, vI i), (3, .ref o), (2, .ref m), (1, .ref x), (0, .ref 0)] [vI z4535] _ H4529
      refine wl_of hX hb cL_1105 (rw_pop (pc' := 1106) rfl rfl ?_)
      refine wl_of hX hb cL_1106 (rw_goto (p1 := 1653) (by decide) ?_)
      have k4540 : H4529 x 9 = H4450 x 9 := (f4534 x 9 _ gx rfl)
      have k4541 : H4529 m 6 = H4450 m 6 := (f4534 m 6 _ gm rfl)
      have k4542 : H4529 x 11 = H4450 x 11 := (f4534 x 11 _ gx rfl)
      have k4543 : H4529 m 13 = H4450 m 13 := (f4534 m 13 _ gm rfl)
      have k4544 : H4529 x 8 = H4450 x 8 := (f4534 x 8 _ gx rfl)
      have k4545 : H4529 m 3 = H4450 m 3 := (f4534 m 3 _ gm rfl)
      have k4546 : H4529 x 0 = H x 0 := ((f4534 x 0 _ gx rfl).trans (f4455 x 0 _ gx rfl))
      have q4547 : H4529 x 0 = (tc : Int) := k4546.trans e0
      have k4548 : H4529 m 5 = H m 5 := ((f4534 m 5 _ gm rfl).trans (f4455 m 5 _ gm rfl))
      have q4549 : H4529 m 5 = (tm : Int) := k4548.trans em
      have k4550 : H4529 x 6 = H x 6 := ((f4534 x 6 _ gx rfl).trans (f4455 x 6 _ gx rfl))
      have q4551 : H4529 x 6 = (cu : Int) := k4550.trans ecu
      have k4552 : H4529 x 7 = H x 7 := ((f4534 x 7 _ gx rfl).trans (f4455 x 7 _ gx rfl))
      have q4553 : H4529 x 7 = (dr : Int) := k4552.trans edr
      have h4554 : TP T H4529 tc B := (TP_fr w4454 gtc f4534 rfl (TP_fr hW gtc f4455 rfl htc))
      have h4555 : TM T H4529 tm B := (TM_fr w4454 gtm f4534 rfl (TM_fr hW gtm f4455 rfl htm))
      have h4556 : DD T H4529 cu  := (DD_fr w4454 gcu f4534 rfl (DD_fr hW gcu f4455 rfl hcu))
      have h4557 : DD T H4529 dr  := (DD_fr w4454 gdr f4534 rfl (DD_fr hW gdr f4455 rfl hdr))
      have h4558 : DE T H4529 cu  := (DE_fr w4454 gcu f4534 rfl (DE_fr hW gcu f4455 rfl hdec))
      have h4559 : DE T H4529 dr  := (DE_fr w4454 gdr f4534 rfl (DE_fr hW gdr f4455 rfl hded))
      have h4560 : SP T H4529 x C8 := (SP_fr w4454 gx f4534 rfl (SP_fr hW gx f4455 rfl hsp))
      have h4561 : CU T H4529 cu e8 d8 n8 := (CU_fr w4454 gcu f4534 rfl (CU_fr hW gcu f4455 rfl hcu8))
      have h4562 : CY T H4529 cu (d8 0 3) g8 (H cu 17) := (CY_fr w4454 gcu f4534 rfl (CY_fr hW gcu f4455 rfl h4443))
      have k4563 : H4529 x 3 = H x 3 := ((f4534 x 3 _ gx rfl).trans (f4455 x 3 _ gx rfl))
      have q4564 : H4529 x 3 = (ce8 : Int) := k4563.trans ece8
      have h4565 : CEN T H4529 ce8 e8 d8 := (CEN_fr w4454 gce8 f4534 rfl p4458)
      have h4566 : HDR T H4529 ce8  := (HDR_fr w4454 gce8 f4534 rfl (HDR_fr hW gce8 f4455 rfl hhdr8))
      have h4567 : RY T H4529 m (d8 0 3) g8 (H m 32) := (RY_fr w4454 gm f4534 rfl (RY_fr hW gm f4455 rfl h4444))
      have h4568 : RB T H4529 m e8 d8 := (RB_fr w4454 gm f4534 rfl h4525)
      exact WL.loc hX (by simp) (next T H4529 ⟨⟨w4533, g0, gx, gm, go, by omega, by omega⟩, ⟨_, tc, tm, cu, dr, _, _, _, _, _, ce8, q4547, gtc, h4554, q4549, gtm, h4555, q4551, gcu, q4553, gdr, h4556, h4557, h4558, h4559, h4560, hC1, hC2, h4561, h4568, (h4562).1, (h4567).1, hE, hZ, (by omega), (by assumption), (by omega), (by first | assumption | exact SG_0), q4564, gce8, h4565, h4566, a4539, gm⟩, by omega, by omega⟩ (by omega) (by omega))
