/-! THE LAW, GONE ON WITH (own work) -/
set_option maxHeartbeats 4000000 in
theorem wl_c22 {kt : Nat → Option mc_E} {CB SB : Nat} {X : mc_S → Prop} {T : wq_T} {H : wq_H} {Len x m o : Nat} {i : Int} (hX : wlX kt CB SB X) (hb : T.2.1 ≤ CB ∧ T.2.2.1 ≤ SB) (hI : wlJ Len x m o T H) (hL : Len ≤ 3072) (hi : 0 ≤ i ∧ i + 6 ≤ Len) (hb2 : T.2.1 + 20 ≤ CB ∧ T.2.2.1 + 500 ≤ SB)  (next : ∀ T' H', wlJ Len x m o T' H' → T'.2.1 ≤ T.2.1 + 20 → T'.2.2.1 ≤ T.2.2.1 + 500 → WL kt CB SB X 1653 (wlL i x m o) [] T' H') : WL kt CB SB X 882 (wlL i x m o) [] T H := by
  obtain ⟨⟨hW, g0, gx, gm, go, hK, hr⟩, hXI, hY1, hY2⟩ := hI
  refine wl_of hX hb cL_882 (rw_aload_n (pc' := 883) (v := .ref x) rfl rfl rfl ?_)
  refine wl_of hX hb cL_883 (rw_aload_n (pc' := 884) (v := .ref 0) rfl rfl rfl ?_)
  refine wl_of hX hb cL_884 (rw_iload (pc' := 886) (z := i) rfl rfl ?_)
  refine wl_of hX hb cL_886 (rw_iconst (pc' := 887) rfl ?_)
  refine wl_of hX hb cL_887 (rw_iadd (pc' := 888) rfl ?_)
  refine wl_of hX hb cL_888 (xa_I (so := 0) (pc' := 889) (a := 0) hW g0 (wsh_s _) (by omega) (wty_s _ _) (by omega) (by omega) rfl (fun b3947 b3948 => ?_))
  refine wl_of hX hb cL_889 (rw_aload_n (pc' := 890) (v := .ref 0) rfl rfl rfl ?_)
  refine wl_of hX hb cL_890 (rw_iload (pc' := 892) (z := i) rfl rfl ?_)
  refine wl_of hX hb cL_892 (rw_iconst (pc' := 893) rfl ?_)
  refine wl_of hX hb cL_893 (rw_iadd (pc' := 894) rfl ?_)
  refine wl_of hX hb cL_894 (xa_I (so := 0) (pc' := 895) (a := 0) hW g0 (wsh_s _) (by omega) (wty_s _ _) (by omega) (by omega) rfl (fun b3949 b3950 => ?_))
  obtain ⟨B, tc, tm, cu, dr, C8, e8, d8, n8, g8, ce8, e0, gtc, htc, em, gtm, htm, ecu, gcu, edr, gdr, hcu, hdr, hdec, hded, hsp, hC1, hC2, hcu8, hrb8, hcg8, hmn8, hE, hZ, hn8, hXA, hV8, hSG, ece8, gce8, hcen8, hhdr8, hknn8, -⟩ := hXI
  have hN3 := RB_n3 hrb8
  have hE13 : ∀ h : Nat, h < 24 → 0 ≤ e8 13 h ∧ e8 13 h ≤ 100 := fun k hk => by
    obtain ⟨s, h1, h2, h3⟩ := hcu8.1.2.2.1
    exact ⟨(h3 k hk).1, (h3 k hk).2.1⟩
  have hXW := hXA.1
  have hXN := hXA.2
  have hE0 : e8 0 3 = d8 0 3 ∧ e8 0 0 = d8 0 0 := by
    have h := hE 0 (by decide)
    exact ⟨congrFun h 3, congrFun h 0⟩
  have u3951 := CU_k hcu8
  have h3952 : CY T H cu (d8 0 3) g8 (H cu 17) := ⟨hcg8, rfl⟩
  have h3953 : RY T H m (d8 0 3) g8 (H m 32) := ⟨hmn8, rfl⟩
  obtain ⟨t9, ht9⟩ : ∃ t : Int, t = H x 9 := ⟨_, rfl⟩
  obtain ⟨y9, hy9⟩ : ∃ y : Int, y = H 0 ((i + 2).toNat) := ⟨_, rfl⟩
  obtain ⟨r3954, q3955, g3956⟩ := hW.ref gx (t' := 6) (n := 13) (j := 2) (p := 0) (q := 0) rfl (by decide) rfl
  refine wl_of hX hb cL_895 (xc_V (pc' := 898) (r := x) (as := [vI (H 0 ((i + 1).toNat)), vI (H 0 ((i + 2).toNat))]) (st := []) (lm_11_114) rfl rfl (Nat.le_of_ble_eq_true rfl) hW gx sh_1 (by decide) rfl (by decide) (u_105 (e := e8) (d := d8) (n := n8) hW gx ⟨by omega, by omega⟩ ⟨by omega, by omega⟩ ecu gcu q3955 g3956 ece8 gce8 (by assumption) (by assumption) (by omega) (by omega) (by omega) (by omega) hcu8 hcen8 hhdr8) (fun R3957 T3958 H3959 p3960 => ?_))
  obtain ⟨e3961, w3963, f3964, z3965, e3962, b3966, p3967⟩ := p3960
  subst e3961
  subst e3962
  show WL _ _ _ _ 898 [(4, vI i), (3, .ref o), (2, .ref m), (1, .ref x), (0, .ref 0)] [vI z3965] _ H3959
  refine wl_of hX hb cL_898 (rw_pop (pc' := 899) rfl rfl ?_)
  refine wl_of hX hb cL_899 (rw_aload_n (pc' := 900) (v := .ref m) rfl rfl rfl ?_)
  refine wl_of hX hb cL_900 (rw_aload_n (pc' := 901) (v := .ref 0) rfl rfl rfl ?_)
  refine wl_of hX hb cL_901 (rw_iload (pc' := 903) (z := i) rfl rfl ?_)
  refine wl_of hX hb cL_903 (rw_iconst (pc' := 904) rfl ?_)
  refine wl_of hX hb cL_904 (rw_iadd (pc' := 905) rfl ?_)
  have k3971 : H3959 0 ((i + 1).toNat) = H 0 ((i + 1).toNat) := (f3964 0 ((i + 1).toNat) _ g0 (wmem_s rfl))
  refine wl_of hX hb cL_905 (xa_I (so := 0) (pc' := 906) (a := 0) w3963 g0 (wsh_s _) (by omega) (wty_s _ _) (by omega) (by omega) rfl (fun b3969 b3970 => ?_))
  refine wl_of hX hb cL_906 (rw_aload_n (pc' := 907) (v := .ref 0) rfl rfl rfl ?_)
  refine wl_of hX hb cL_907 (rw_iload (pc' := 909) (z := i) rfl rfl ?_)
  refine wl_of hX hb cL_909 (rw_iconst (pc' := 910) rfl ?_)
  refine wl_of hX hb cL_910 (rw_iadd (pc' := 911) rfl ?_)
  have k3974 : H3959 0 ((i + 2).toNat) = H 0 ((i + 2).toNat) := (f3964 0 ((i + 2).toNat) _ g0 (wmem_s rfl))
  refine wl_of hX hb cL_911 (xa_I (so := 0) (pc' := 912) (a := 0) w3963 g0 (wsh_s _) (by omega) (wty_s _ _) (by omega) (by omega) rfl (fun b3972 b3973 => ?_))
  have k3975 : wKI H3959 m = wKI H m := (wKI_fr hW gm f3964 rfl)
  have k3976 : H3959 x 9 = H x 9 := (f3964 x 9 _ gx rfl)
  have k3977 : H3959 m 6 = H m 6 := (f3964 m 6 _ gm rfl)
  have k3978 : H3959 x 11 = H x 11 := (f3964 x 11 _ gx rfl)
  have k3979 : H3959 m 13 = H m 13 := (f3964 m 13 _ gm rfl)
  have k3980 : H3959 x 8 = H x 8 := (f3964 x 8 _ gx rfl)
  have k3981 : H3959 m 3 = H m 3 := (f3964 m 3 _ gm rfl)
  rw [show H3959 0 ((i + 2).toNat) = H 0 ((i + 2).toNat) by omega]
  rw [show H3959 0 ((i + 1).toNat) = H 0 ((i + 1).toNat) by omega]
  have h3982 : RB T H3959 m e8 d8 := (RB_fr hW gm f3964 rfl hrb8)
  have h3983 : KNN T H3959 m e8 d8 := (KNN_fr hW gm f3964 rfl hknn8)
  refine wl_of hX hb cL_912 (xc_V (pc' := 915) (r := m) (as := [vI (H 0 ((i + 1).toNat)), vI (H 0 ((i + 2).toNat))]) (st := []) (lm_11_117) rfl rfl (Nat.le_of_ble_eq_true rfl) w3963 gm sh_42 (by decide) rfl (by decide) (u_255 (e := e8) (d := d8) w3963 gm ⟨by omega, by omega⟩ ⟨by omega, by omega⟩ (by omega) (by assumption) (by assumption) (by assumption) (by assumption) h3982 h3983) (fun R3984 T3985 H3986 p3987 => ?_))
  obtain ⟨e3988, w3990, f3991, z3992, e3989, b3993, p3994⟩ := p3987
  subst e3988
  subst e3989
  obtain ⟨a3995, a3996⟩ := p3994
  show WL _ _ _ _ 915 [(4, vI i), (3, .ref o), (2, .ref m), (1, .ref x), (0, .ref 0)] [vI z3992] _ H3986
  refine wl_of hX hb cL_915 (rw_pop (pc' := 916) rfl rfl ?_)
  refine wl_of hX hb cL_916 (rw_goto (p1 := 1653) (by decide) ?_)
  have k3997 : H3986 x 9 = H3959 x 9 := (f3991 x 9 _ gx rfl)
  have k3998 : H3986 m 6 = H3959 m 6 := (f3991 m 6 _ gm rfl)
  have k3999 : H3986 x 11 = H3959 x 11 := (f3991 x 11 _ gx rfl)
  have k4000 : H3986 m 13 = H3959 m 13 := (f3991 m 13 _ gm rfl)
  have k4001 : H3986 x 8 = H3959 x 8 := (f3991 x 8 _ gx rfl)
  have k4002 : H3986 m 3 = H3959 m 3 := (f3991 m 3 _ gm rfl)
  have k4003 : H3986 x 0 = H x 0 := ((f3991 x 0 _ gx rfl).trans (f3964 x 0 _ gx rfl))
  have q4004 : H3986 x 0 = (tc : Int) := k4003.trans e0
  have k4005 : H3986 m 5 = H m 5 := ((f3991 m 5 _ gm rfl).trans (f3964 m 5 _ gm rfl))
  have q4006 : H3986 m 5 = (tm : Int) := k4005.trans em
  have k4007 : H3986 x 6 = H x 6 := ((f3991 x 6 _ gx rfl).trans (f3964 x 6 _ gx rfl))
  have q4008 : H3986 x 6 = (cu : Int) := k4007.trans ecu
  have k4009 : H3986 x 7 = H x 7 := ((f3991 x 7 _ gx rfl).trans (f3964 x 7 _ gx rfl))
  have q4010 : H3986 x 7 = (dr : Int) := k4009.trans edr
  have h4011 : CEN T H3986 ce8 e8 d8 := (CEN_fr w3963 gce8 f3991 rfl p3967)
  have h4012 : TP T H3986 tc B := (TP_fr w3963 gtc f3991 rfl (TP_fr hW gtc f3964 rfl htc))
  have h4013 : TM T H3986 tm B := (TM_fr w3963 gtm f3991 rfl (TM_fr hW gtm f3964 rfl htm))
  have h4014 : DD T H3986 cu  := (DD_fr w3963 gcu f3991 rfl (DD_fr hW gcu f3964 rfl hcu))
  have h4015 : DD T H3986 dr  := (DD_fr w3963 gdr f3991 rfl (DD_fr hW gdr f3964 rfl hdr))
  have h4016 : DE T H3986 cu  := (DE_fr w3963 gcu f3991 rfl (DE_fr hW gcu f3964 rfl hdec))
  have h4017 : DE T H3986 dr  := (DE_fr w3963 gdr f3991 rfl (DE_fr hW gdr f3964 rfl hded))
  have h4018 : SP T H3986 x C8 := (SP_fr w3963 gx f3991 rfl (SP_fr hW gx f3964 rfl hsp))
  have h4019 : CU T H3986 cu e8 d8 n8 := (CU_fr w3963 gcu f3991 rfl (CU_fr hW gcu f3964 rfl hcu8))
  have h4020 : CY T H3986 cu (d8 0 3) g8 (H cu 17) := (CY_fr w3963 gcu f3991 rfl (CY_fr hW gcu f3964 rfl h3952))
  have k4021 : H3986 x 3 = H x 3 := ((f3991 x 3 _ gx rfl).trans (f3964 x 3 _ gx rfl))
  have q4022 : H3986 x 3 = (ce8 : Int) := k4021.trans ece8
  have h4023 : HDR T H3986 ce8  := (HDR_fr w3963 gce8 f3991 rfl (HDR_fr hW gce8 f3964 rfl hhdr8))
  have h4024 : RY T H3986 m (d8 0 3) g8 (H m 32) := (RY_fr w3963 gm f3991 rfl (RY_fr hW gm f3964 rfl h3953))
  have h4025 : RB T H3986 m e8 d8 := (RB_fr w3963 gm f3991 rfl h3982)
  exact WL.loc hX (by simp) (next T H3986 ⟨⟨w3990, g0, gx, gm, go, by omega, by omega⟩, ⟨_, tc, tm, cu, dr, _, _, _, _, _, ce8, q4004, gtc, h4012, q4006, gtm, h4013, q4008, gcu, q4010, gdr, h4014, h4015, h4016, h4017, h4018, hC1, hC2, h4019, h4025, (h4020).1, (h4024).1, hE, hZ, (by omega), (by assumption), (by omega), (by first | assumption | exact SG_0), q4022, gce8, h4011, h4023, a3996, gm⟩, by omega, by omega⟩ (by omega) (by omega))
set_option maxHeartbeats 4000000 in
theorem wl_c23 {kt : Nat → Option mc_E} {CB SB : Nat} {X : mc_S → Prop} {T : wq_T} {H : wq_H} {Len x m o : Nat} {i : Int} (hX : wlX kt CB SB X) (hb : T.2.1 ≤ CB ∧ T.2.2.1 ≤ SB) (hI : wlJ Len x m o T H) (hL : Len ≤ 3072) (hi : 0 ≤ i ∧ i + 6 ≤ Len) (hb2 : T.2.1 + 20 ≤ CB ∧ T.2.2.1 + 500 ≤ SB)  (next : ∀ T' H', wlJ Len x m o T' H' → T'.2.1 ≤ T.2.1 + 20 → T'.2.2.1 ≤ T.2.2.1 + 500 → WL kt CB SB X 1653 (wlL i x m o) [] T' H') : WL kt CB SB X 919 (wlL i x m o) [] T H := by
  obtain ⟨⟨hW, g0, gx, gm, go, hK, hr⟩, hXI, hY1, hY2⟩ := hI
  refine wl_of hX hb cL_919 (rw_aload_n (pc' := 920) (v := .ref x) rfl rfl rfl ?_)
  refine wl_of hX hb cL_920 (rw_aload_n (pc' := 921) (v := .ref 0) rfl rfl rfl ?_)
  refine wl_of hX hb cL_921 (rw_iload (pc' := 923) (z := i) rfl rfl ?_)
  refine wl_of hX hb cL_923 (rw_iconst (pc' := 924) rfl ?_)
  refine wl_of hX hb cL_924 (rw_iadd (pc' := 925) rfl ?_)
  refine wl_of hX hb cL_925 (xa_I (so := 0) (pc' := 926) (a := 0) hW g0 (wsh_s _) (by omega) (wty_s _ _) (by omega) (by omega) rfl (fun b4026 b4027 => ?_))
  obtain ⟨B, tc, tm, cu, dr, C8, e8, d8, n8, g8, ce8, e0, gtc, htc, em, gtm, htm, ecu, gcu, edr, gdr, hcu, hdr, hdec, hded, hsp, hC1, hC2, hcu8, hrb8, hcg8, hmn8, hE, hZ, hn8, hXA, hV8, hSG, ece8, gce8, hcen8, hhdr8, hknn8, -⟩ := hXI
  have hN3 := RB_n3 hrb8
  have hE13 : ∀ h : Nat, h < 24 → 0 ≤ e8 13 h ∧ e8 13 h ≤ 100 := fun k hk => by
    obtain ⟨s, h1, h2, h3⟩ := hcu8.1.2.2.1
    exact ⟨(h3 k hk).1, (h3 k hk).2.1⟩
  have hXW := hXA.1
  have hXN := hXA.2
  have hE0 : e8 0 3 = d8 0 3 ∧ e8 0 0 = d8 0 0 := by
    have h := hE 0 (by decide)
    exact ⟨congrFun h 3, congrFun h 0⟩
  have u4028 := CU_k hcu8
  have h4029 : CY T H cu (d8 0 3) g8 (H cu 17) := ⟨hcg8, rfl⟩
  have h4030 : RY T H m (d8 0 3) g8 (H m 32) := ⟨hmn8, rfl⟩
  obtain ⟨t9, ht9⟩ : ∃ t : Int, t = H x 9 := ⟨_, rfl⟩
  obtain ⟨y9, hy9⟩ : ∃ y : Int, y = H 0 ((i + 1).toNat) := ⟨_, rfl⟩
  obtain ⟨r4031, q4032, g4033⟩ := hW.ref gx (t' := 6) (n := 13) (j := 2) (p := 0) (q := 0) rfl (by decide) rfl
  refine wl_of hX hb cL_926 (xc_V (pc' := 929) (r := x) (as := [vI (H 0 ((i + 1).toNat))]) (st := []) (lm_11_118) rfl rfl (Nat.le_of_ble_eq_true rfl) hW gx sh_1 (by decide) rfl (by decide) (u_107 (e := e8) (d := d8) (n := n8) hW gx ⟨by omega, by omega⟩ ecu gcu q4032 g4033 ece8 gce8 (by assumption) (by assumption) (by omega) (by omega) (by omega) (by omega) hcu8 hcen8 hhdr8) (fun R4034 T4035 H4036 p4037 => ?_))
  obtain ⟨e4038, w4040, f4041, z4042, e4039, b4043, p4044⟩ := p4037
  subst e4038
  subst e4039
  show WL _ _ _ _ 929 [(4, vI i), (3, .ref o), (2, .ref m), (1, .ref x), (0, .ref 0)] [vI z4042] _ H4036
  refine wl_of hX hb cL_929 (rw_pop (pc' := 930) rfl rfl ?_)
  refine wl_of hX hb cL_930 (rw_aload_n (pc' := 931) (v := .ref m) rfl rfl rfl ?_)
  refine wl_of hX hb cL_931 (rw_aload_n (pc' := 932) (v := .ref 0) rfl rfl rfl ?_)
  refine wl_of hX hb cL_932 (rw_iload (pc' := 934) (z := i) rfl rfl ?_)
  refine wl_of hX hb cL_934 (rw_iconst (pc' := 935) rfl ?_)
  refine wl_of hX hb cL_935 (rw_iadd (pc' := 936) rfl ?_)
  have k4048 : H4036 0 ((i + 1).toNat) = H 0 ((i + 1).toNat) := (f4041 0 ((i + 1).toNat) _ g0 (wmem_s rfl))
  refine wl_of hX hb cL_936 (xa_I (so := 0) (pc' := 937) (a := 0) w4040 g0 (wsh_s _) (by omega) (wty_s _ _) (by omega) (by omega) rfl (fun b4046 b4047 => ?_))
  have k4049 : wKI H4036 m = wKI H m := (wKI_fr hW gm f4041 rfl)
  have k4050 : H4036 x 9 = H x 9 := (f4041 x 9 _ gx rfl)
  have k4051 : H4036 m 6 = H m 6 := (f4041 m 6 _ gm rfl)
  have k4052 : H4036 x 11 = H x 11 := (f4041 x 11 _ gx rfl)
  have k4053 : H4036 m 13 = H m 13 := (f4041 m 13 _ gm rfl)
  have k4054 : H4036 x 8 = H x 8 := (f4041 x 8 _ gx rfl)
  have k4055 : H4036 m 3 = H m 3 := (f4041 m 3 _ gm rfl)
  rw [show H4036 0 ((i + 1).toNat) = H 0 ((i + 1).toNat) by omega]
  have h4056 : RB T H4036 m e8 d8 := (RB_fr hW gm f4041 rfl hrb8)
  have h4057 : KNN T H4036 m e8 d8 := (KNN_fr hW gm f4041 rfl hknn8)
  refine wl_of hX hb cL_937 (xc_V (pc' := 940) (r := m) (as := [vI (H 0 ((i + 1).toNat))]) (st := []) (lm_11_121) rfl rfl (Nat.le_of_ble_eq_true rfl) w4040 gm sh_42 (by decide) rfl (by decide) (u_256 (e := e8) (d := d8) w4040 gm ⟨by omega, by omega⟩ (by omega) (by assumption) (by assumption) (by assumption) (by assumption) h4056 h4057) (fun R4058 T4059 H4060 p4061 => ?_))
  obtain ⟨e4062, w4064, f4065, z4066, e4063, b4067, p4068⟩ := p4061
  subst e4062
  subst e4063
  obtain ⟨a4069, a4070⟩ := p4068
  show WL _ _ _ _ 940 [(4, vI i), (3, .ref o), (2, .ref m), (1, .ref x), (0, .ref 0)] [vI z4066] _ H4060
  refine wl_of hX hb cL_940 (rw_pop (pc' := 941) rfl rfl ?_)
  refine wl_of hX hb cL_941 (rw_goto (p1 := 1653) (by decide) ?_)
  have k4071 : H4060 x 9 = H4036 x 9 := (f4065 x 9 _ gx rfl)
  have k4072 : H4060 m 6 = H4036 m 6 := (f4065 m 6 _ gm rfl)
  have k4073 : H4060 x 11 = H4036 x 11 := (f4065 x 11 _ gx rfl)
  have k4074 : H4060 m 13 = H4036 m 13 := (f4065 m 13 _ gm rfl)
  have k4075 : H4060 x 8 = H4036 x 8 := (f4065 x 8 _ gx rfl)
  have k4076 : H4060 m 3 = H4036 m 3 := (f4065 m 3 _ gm rfl)
  have k4077 : H4060 x 0 = H x 0 := ((f4065 x 0 _ gx rfl).trans (f4041 x 0 _ gx rfl))
  have q4078 : H4060 x 0 = (tc : Int) := k4077.trans e0
  have k4079 : H4060 m 5 = H m 5 := ((f4065 m 5 _ gm rfl).trans (f4041 m 5 _ gm rfl))
  have q4080 : H4060 m 5 = (tm : Int) := k4079.trans em
  have k4081 : H4060 x 6 = H x 6 := ((f4065 x 6 _ gx rfl).trans (f4041 x 6 _ gx rfl))
  have q4082 : H4060 x 6 = (cu : Int) := k4081.trans ecu
  have k4083 : H4060 x 7 = H x 7 := ((f4065 x 7 _ gx rfl).trans (f4041 x 7 _ gx rfl))
  have q4084 : H4060 x 7 = (dr : Int) := k4083.trans edr
  have h4085 : CEN T H4060 ce8 e8 d8 := (CEN_fr w4040 gce8 f4065 rfl p4044)
  have h4086 : TP T H4060 tc B := (TP_fr w4040 gtc f4065 rfl (TP_fr hW gtc f4041 rfl htc))
  have h4087 : TM T H4060 tm B := (TM_fr w4040 gtm f4065 rfl (TM_fr hW gtm f4041 rfl htm))
  have h4088 : DD T H4060 cu  := (DD_fr w4040 gcu f4065 rfl (DD_fr hW gcu f4041 rfl hcu))
  have h4089 : DD T H4060 dr  := (DD_fr w4040 gdr f4065 rfl (DD_fr hW gdr f4041 rfl hdr))
  have h4090 : DE T H4060 cu  := (DE_fr w4040 gcu f4065 rfl (DE_fr hW gcu f4041 rfl hdec))
  have h4091 : DE T H4060 dr  := (DE_fr w4040 gdr f4065 rfl (DE_fr hW gdr f4041 rfl hded))
  have h4092 : SP T H4060 x C8 := (SP_fr w4040 gx f4065 rfl (SP_fr hW gx f4041 rfl hsp))
  have h4093 : CU T H4060 cu e8 d8 n8 := (CU_fr w4040 gcu f4065 rfl (CU_fr hW gcu f4041 rfl hcu8))
  have h4094 : CY T H4060 cu (d8 0 3) g8 (H cu 17) := (CY_fr w4040 gcu f4065 rfl (CY_fr hW gcu f4041 rfl h4029))
  have k4095 : H4060 x 3 = H x 3 := ((f4065 x 3 _ gx rfl).trans (f4041 x 3 _ gx rfl))
  have q4096 : H4060 x 3 = (ce8 : Int) := k4095.trans ece8
  have h4097 : HDR T H4060 ce8  := (HDR_fr w4040 gce8 f4065 rfl (HDR_fr hW gce8 f4041 rfl hhdr8))
  have h4098 : RY T H4060 m (d8 0 3) g8 (H m 32) := (RY_fr w4040 gm f4065 rfl (RY_fr hW gm f4041 rfl h4030))
  have h4099 : RB T H4060 m e8 d8 := (RB_fr w4040 gm f4065 rfl h4056)
  exact WL.loc hX (by simp) (next T H4060 ⟨⟨w4064, g0, gx, gm, go, by omega, by omega⟩, ⟨_, tc, tm, cu, dr, _, _, _, _, _, ce8, q4078, gtc, h4086, q4080, gtm, h4087, q4082, gcu, q4084, gdr, h4088, h4089, h4090, h4091, h4092, hC1, hC2, h4093, h4099, (h4094).1, (h4098).1, hE, hZ, (by omega), (by assumption), (by omega), (by first | assumption | exact SG_0), q4096, gce8, h4085, h4097, a4070, gm⟩, by omega, by omega⟩ (by omega) (by omega))
set_option maxHeartbeats 4000000 in
theorem wl_c24 {kt : Nat → Option mc_E} {CB SB : Nat} {X : mc_S → Prop} {T : wq_T} {H : wq_H} {Len x m o : Nat} {i : Int} (hX : wlX kt CB SB X) (hb : T.2.1 ≤ CB ∧ T.2.2.1 ≤ SB) (hI : wlJ Len x m o T H) (hL : Len ≤ 3072) (hi : 0 ≤ i ∧ i + 6 ≤ Len) (hb2 : T.2.1 + 20 ≤ CB ∧ T.2.2.1 + 500 ≤ SB)  (next : ∀ T' H', wlJ Len x m o T' H' → T'.2.1 ≤ T.2.1 + 20 → T'.2.2.1 ≤ T.2.2.1 + 500 → WL kt CB SB X 1653 (wlL i x m o) [] T' H') : WL kt CB SB X 944 (wlL i x m o) [] T H := by
  obtain ⟨⟨hW, g0, gx, gm, go, hK, hr⟩, hXI, hY1, hY2⟩ := hI
  refine wl_of hX hb cL_944 (rw_aload_n (pc' := 945) (v := .ref x) rfl rfl rfl ?_)
  obtain ⟨B, tc, tm, cu, dr, C8, e8, d8, n8, g8, ce8, e0, gtc, htc, em, gtm, htm, ecu, gcu, edr, gdr, hcu, hdr, hdec, hded, hsp, hC1, hC2, hcu8, hrb8, hcg8, hmn8, hE, hZ, hn8, hXA, hV8, hSG, ece8, gce8, hcen8, hhdr8, hknn8, -⟩ := hXI
  have hN3 := RB_n3 hrb8
  have hE13 : ∀ h : Nat, h < 24 → 0 ≤ e8 13 h ∧ e8 13 h ≤ 100 := fun k hk => by
    obtain ⟨s, h1, h2, h3⟩ := hcu8.1.2.2.1
    exact ⟨(h3 k hk).1, (h3 k hk).2.1⟩
  have hXW := hXA.1
  have hXN := hXA.2
  have hE0 : e8 0 3 = d8 0 3 ∧ e8 0 0 = d8 0 0 := by
    have h := hE 0 (by decide)
    exact ⟨congrFun h 3, congrFun h 0⟩
  have u4100 := CU_k hcu8
  have h4101 : CY T H cu (d8 0 3) g8 (H cu 17) := ⟨hcg8, rfl⟩
  have h4102 : RY T H m (d8 0 3) g8 (H m 32) := ⟨hmn8, rfl⟩
  obtain ⟨t9, ht9⟩ : ∃ t : Int, t = H x 9 := ⟨_, rfl⟩
  obtain ⟨r4103, q4104, g4105⟩ := hW.ref gx (t' := 6) (n := 13) (j := 2) (p := 0) (q := 0) rfl (by decide) rfl
  refine wl_of hX hb cL_945 (xc_V (pc' := 948) (r := x) (as := []) (st := []) (lm_11_122) rfl rfl (Nat.le_of_ble_eq_true rfl) hW gx sh_1 (by decide) rfl (by decide) (u_108 (e := e8) (d := d8) (n := n8) hW gx ecu gcu q4104 g4105 ece8 gce8 (by assumption) (by assumption) (by omega) (by omega) (by omega) (by omega) hcu8 hcen8 hhdr8) (fun R4106 T4107 H4108 p4109 => ?_))
  obtain ⟨e4110, w4112, f4113, z4114, e4111, b4115, p4116⟩ := p4109
  subst e4110
  subst e4111
  show WL _ _ _ _ 948 [(4, vI i), (3, .ref o), (2, .ref m), (1, .ref x), (0, .ref 0)] [vL z4114] _ H4108
  refine wl_of hX hb cL_948 (rw_pop2 (pc' := 949) rfl rfl ?_)
  refine wl_of hX hb cL_949 (rw_aload_n (pc' := 950) (v := .ref m) rfl rfl rfl ?_)
  have k4118 : wKI H4108 m = wKI H m := (wKI_fr hW gm f4113 rfl)
  have k4119 : H4108 x 9 = H x 9 := (f4113 x 9 _ gx rfl)
  have k4120 : H4108 m 6 = H m 6 := (f4113 m 6 _ gm rfl)
  have k4121 : H4108 x 11 = H x 11 := (f4113 x 11 _ gx rfl)
  have k4122 : H4108 m 13 = H m 13 := (f4113 m 13 _ gm rfl)
  have k4123 : H4108 x 8 = H x 8 := (f4113 x 8 _ gx rfl)
  have k4124 : H4108 m 3 = H m 3 := (f4113 m 3 _ gm rfl)
  have h4125 : RB T H4108 m e8 d8 := (RB_fr hW gm f4113 rfl hrb8)
  have h4126 : KNN T H4108 m e8 d8 := (KNN_fr hW gm f4113 rfl hknn8)
  refine wl_of hX hb cL_950 (xc_V (pc' := 953) (r := m) (as := []) (st := []) (lm_11_125) rfl rfl (Nat.le_of_ble_eq_true rfl) w4112 gm sh_42 (by decide) rfl (by decide) (u_258 (e := e8) (d := d8) w4112 gm (by omega) (by assumption) (by assumption) (by assumption) (by assumption) h4125 h4126) (fun R4127 T4128 H4129 p4130 => ?_))
  obtain ⟨e4131, w4133, f4134, z4135, e4132, b4136, p4137⟩ := p4130
  subst e4131
  subst e4132
  obtain ⟨a4138, a4139⟩ := p4137
  show WL _ _ _ _ 953 [(4, vI i), (3, .ref o), (2, .ref m), (1, .ref x), (0, .ref 0)] [vL z4135] _ H4129
  refine wl_of hX hb cL_953 (rw_pop2 (pc' := 954) rfl rfl ?_)
  refine wl_of hX hb cL_954 (rw_goto (p1 := 1653) (by decide) ?_)
  have k4140 : H4129 x 9 = H4108 x 9 := (f4134 x 9 _ gx rfl)
  have k4141 : H4129 m 6 = H4108 m 6 := (f4134 m 6 _ gm rfl)
  have k4142 : H4129 x 11 = H4108 x 11 := (f4134 x 11 _ gx rfl)
  have k4143 : H4129 m 13 = H4108 m 13 := (f4134 m 13 _ gm rfl)
  have k4144 : H4129 x 8 = H4108 x 8 := (f4134 x 8 _ gx rfl)
  have k4145 : H4129 m 3 = H4108 m 3 := (f4134 m 3 _ gm rfl)
  have k4146 : H4129 x 0 = H x 0 := ((f4134 x 0 _ gx rfl).trans (f4113 x 0 _ gx rfl))
  have q4147 : H4129 x 0 = (tc : Int) := k4146.trans e0
  have k4148 : H4129 m 5 = H m 5 := ((f4134 m 5 _ gm rfl).trans (f4113 m 5 _ gm rfl))
  have q4149 : H4129 m 5 = (tm : Int) := k4148.trans em
  have k4150 : H4129 x 6 = H x 6 := ((f4134 x 6 _ gx rfl).trans (f4113 x 6 _ gx rfl))
  have q4151 : H4129 x 6 = (cu : Int) := k4150.trans ecu
  have k4152 : H4129 x 7 = H x 7 := ((f4134 x 7 _ gx rfl).trans (f4113 x 7 _ gx rfl))
  have q4153 : H4129 x 7 = (dr : Int) := k4152.trans edr
  have h4154 : CEN T H4129 ce8 e8 d8 := (CEN_fr w4112 gce8 f4134 rfl p4116)
  have h4155 : TP T H4129 tc B := (TP_fr w4112 gtc f4134 rfl (TP_fr hW gtc f4113 rfl htc))
  have h4156 : TM T H4129 tm B := (TM_fr w4112 gtm f4134 rfl (TM_fr hW gtm f4113 rfl htm))
  have h4157 : DD T H4129 cu  := (DD_fr w4112 gcu f4134 rfl (DD_fr hW gcu f4113 rfl hcu))
  have h4158 : DD T H4129 dr  := (DD_fr w4112 gdr f4134 rfl (DD_fr hW gdr f4113 rfl hdr))
  have h4159 : DE T H4129 cu  := (DE_fr w4112 gcu f4134 rfl (DE_fr hW gcu f4113 rfl hdec))
  have h4160 : DE T H4129 dr  := (DE_fr w4112 gdr f4134 rfl (DE_fr hW gdr f4113 rfl hded))
  have h4161 : SP T H4129 x C8 := (SP_fr w4112 gx f4134 rfl (SP_fr hW gx f4113 rfl hsp))
  have h4162 : CU T H4129 cu e8 d8 n8 := (CU_fr w4112 gcu f4134 rfl (CU_fr hW gcu f4113 rfl hcu8))
  have h4163 : CY T H4129 cu (d8 0 3) g8 (H cu 17) := (CY_fr w4112 gcu f4134 rfl (CY_fr hW gcu f4113 rfl h4101))
  have k4164 : H4129 x 3 = H x 3 := ((f4134 x 3 _ gx rfl).trans (f4113 x 3 _ gx rfl))
  have q4165 : H4129 x 3 = (ce8 : Int) := k4164.trans ece8
  have h4166 : HDR T H4129 ce8  := (HDR_fr w4112 gce8 f4134 rfl (HDR_fr hW gce8 f4113 rfl hhdr8))
  have h4167 : RY T H4129 m (d8 0 3) g8 (H m 32) := (RY_fr w4112 gm f4134 rfl (RY_fr hW gm f4113 rfl h4102))
  have h4168 : RB T H4129 m e8 d8 := (RB_fr w4112 gm f4134 rfl h4125)
  exact WL.loc hX (by simp) (next T H4129 ⟨⟨w4133, g0, gx, gm, go, by omega, by omega⟩, ⟨_, tc, tm, cu, dr, _, _, _, _, _, ce8, q4147, gtc, h4155, q4149, gtm, h4156, q4151, gcu, q4153, gdr, h4157, h4158, h4159, h4160, h4161, hC1, hC2, h4162, h4168, (h4163).1, (h4167).1, hE, hZ, (by omega), (by assumption), (by omega), (by first | assumption | exact SG_0), q4165, gce8, h4154, h4166, a4139, gm⟩, by omega, by omega⟩ (by omega) (by omega))
set_option maxHeartbeats 4000000 in
theorem wl_c25 {kt : Nat → Option mc_E} {CB SB : Nat} {X : mc_S → Prop} {T : wq_T} {H : wq_H} {Len x m o : Nat} {i : Int} (hX : wlX kt CB SB X) (hb : T.2.1 ≤ CB ∧ T.2.2.1 ≤ SB) (hI : wlJ Len x m o T H) (hL : Len ≤ 3072) (hi : 0 ≤ i ∧ i + 6 ≤ Len) (hb2 : T.2.1 + 20 ≤ CB ∧ T.2.2.1 + 500 ≤ SB)  (next : ∀ T' H', wlJ Len x m o T' H' → T'.2.1 ≤ T.2.1 + 20 → T'.2.2.1 ≤ T.2.2.1 + 500 → WL kt CB SB X 1653 (wlL i x m o) [] T' H') : WL kt CB SB X 957 (wlL i x m o) [] T H := by
  obtain ⟨⟨hW, g0, gx, gm, go, hK, hr⟩, hXI, hY1, hY2⟩ := hI
  refine wl_of hX hb cL_957 (rw_aload_n (pc' := 958) (v := .ref x) rfl rfl rfl ?_)
  refine wl_of hX hb cL_958 (rw_aload_n (pc' := 959) (v := .ref 0) rfl rfl rfl ?_)
  refine wl_of hX hb cL_959 (rw_iload (pc' := 961) (z := i) rfl rfl ?_)
  refine wl_of hX hb cL_961 (rw_iconst (pc' := 962) rfl ?_)
  refine wl_of hX hb cL_962 (rw_iadd (pc' := 963) rfl ?_)
  refine wl_of hX hb cL_963 (xa_I (so := 0) (pc' := 964) (a := 0) hW g0 (wsh_s _) (by omega) (wty_s _ _) (by omega) (by omega) rfl (fun b4169 b4170 => ?_))
  refine wl_of hX hb cL_964 (rw_aload_n (pc' := 965) (v := .ref 0) rfl rfl rfl ?_)
  refine wl_of hX hb cL_965 (rw_iload (pc' := 967) (z := i) rfl rfl ?_)
  refine wl_of hX hb cL_967 (rw_iconst (pc' := 968) rfl ?_)
  refine wl_of hX hb cL_968 (rw_iadd (pc' := 969) rfl ?_)
  refine wl_of hX hb cL_969 (xa_I (so := 0) (pc' := 970) (a := 0) hW g0 (wsh_s _) (by omega) (wty_s _ _) (by omega) (by omega) rfl (fun b4171 b4172 => ?_))
  obtain ⟨B, tc, tm, cu, dr, C8, e8, d8, n8, g8, ce8, e0, gtc, htc, em, gtm, htm, ecu, gcu, edr, gdr, hcu, hdr, hdec, hded, hsp, hC1, hC2, hcu8, hrb8, hcg8, hmn8, hE, hZ, hn8, hXA, hV8, hSG, ece8, gce8, hcen8, hhdr8, hknn8, -⟩ := hXI
  have hN3 := RB_n3 hrb8
  have hE13 : ∀ h : Nat, h < 24 → 0 ≤ e8 13 h ∧ e8 13 h ≤ 100 := fun k hk => by
    obtain ⟨s, h1, h2, h3⟩ := hcu8.1.2.2.1
    exact ⟨(h3 k hk).1, (h3 k hk).2.1⟩
  have hXW := hXA.1
  have hXN := hXA.2
  have hE0 : e8 0 3 = d8 0 3 ∧ e8 0 0 = d8 0 0 := by
    have h := hE 0 (by decide)
    exact ⟨congrFun h 3, congrFun h 0⟩
  have u4173 := CU_k hcu8
  have h4174 : CY T H cu (d8 0 3) g8 (H cu 17) := ⟨hcg8, rfl⟩
  have h4175 : RY T H m (d8 0 3) g8 (H m 32) := ⟨hmn8, rfl⟩
  obtain ⟨t9, ht9⟩ : ∃ t : Int, t = H x 9 := ⟨_, rfl⟩
  obtain ⟨y9, hy9⟩ : ∃ y : Int, y = H 0 ((i + 2).toNat) := ⟨_, rfl⟩
  obtain ⟨r4176, q4177, g4178⟩ := hW.ref gx (t' := 6) (n := 13) (j := 2) (p := 0) (q := 0) rfl (by decide) rfl
  refine wl_of hX hb cL_970 (xc_V (pc' := 973) (r := x) (as := [vI (H 0 ((i + 1).toNat)), vI (H 0 ((i + 2).toNat))]) (st := []) (lm_11_126) rfl rfl (Nat.le_of_ble_eq_true rfl) hW gx sh_1 (by decide) rfl (by decide) (u_109 (e := e8) (d := d8) (n := n8) hW gx ⟨by omega, by omega⟩ ⟨by omega, by omega⟩ ecu gcu q4177 g4178 ece8 gce8 (by assumption) (by assumption) (by omega) (by omega) (by omega) (by omega) hcu8 hcen8 hhdr8) (fun R4179 T4180 H4181 p4182 => ?_))
  obtain ⟨e4183, w4185, f4186, z4187, e4184, b4188, p4189⟩ := p4182
  subst e4183
  subst e4184
  show WL _ _ _ _ 973 [(4, vI i), (3, .ref o), (2, .ref m), (1, .ref x), (0, .ref 0)] [vI z4187] _ H4181
  refine wl_of hX hb cL_973 (rw_pop (pc' := 974) rfl rfl ?_)
  refine wl_of hX hb cL_974 (rw_aload_n (pc' := 975) (v := .ref m) rfl rfl rfl ?_)
  refine wl_of hX hb cL_975 (rw_aload_n (pc' := 976) (v := .ref 0) rfl rfl rfl ?_)
  refine wl_of hX hb cL_976 (rw_iload (pc' := 978) (z := i) rfl rfl ?_)
  refine wl_of hX hb cL_978 (rw_iconst (pc' := 979) rfl ?_)
  refine wl_of hX hb cL_979 (rw_iadd (pc' := 980) rfl ?_)
  have k4193 : H4181 0 ((i + 1).toNat) = H 0 ((i + 1).toNat) := (f4186 0 ((i + 1).toNat) _ g0 (wmem_s rfl))
  refine wl_of hX hb cL_980 (xa_I (so := 0) (pc' := 981) (a := 0) w4185 g0 (wsh_s _) (by omega) (wty_s _ _) (by omega) (by omega) rfl (fun b4191 b4192 => ?_))
  refine wl_of hX hb cL_981 (rw_aload_n (pc' := 982) (v := .ref 0) rfl rfl rfl ?_)
  refine wl_of hX hb cL_982 (rw_iload (pc' := 984) (z := i) rfl rfl ?_)
  refine wl_of hX hb cL_984 (rw_iconst (pc' := 985) rfl ?_)
  refine wl_of hX hb cL_985 (rw_iadd (pc' := 986) rfl ?_)
  have k4196 : H4181 0 ((i + 2).toNat) = H 0 ((i + 2).toNat) := (f4186 0 ((i + 2).toNat) _ g0 (wmem_s rfl))
  refine wl_of hX hb cL_986 (xa_I (so := 0) (pc' := 987) (a := 0) w4185 g0 (wsh_s _) (by omega) (wty_s _ _) (by omega) (by omega) rfl (fun b4194 b4195 => ?_))
  have k4197 : wKI H4181 m = wKI H m := (wKI_fr hW gm f4186 rfl)
  have k4198 : H4181 x 9 = H x 9 := (f4186 x 9 _ gx rfl)
  have k4199 : H4181 m 6 = H m 6 := (f4186 m 6 _ gm rfl)
  have k4200 : H4181 x 11 = H x 11 := (f4186 x 11 _ gx rfl)
  have k4201 : H4181 m 13 = H m 13 := (f4186 m 13 _ gm rfl)
  have k4202 : H4181 x 8 = H x 8 := (f4186 x 8 _ gx rfl)
  have k4203 : H4181 m 3 = H m 3 := (f4186 m 3 _ gm rfl)
  rw [show H4181 0 ((i + 2).toNat) = H 0 ((i + 2).toNat) by omega]
  rw [show H4181 0 ((i + 1).toNat) = H 0 ((i + 1).toNat) by omega]
  have h4204 : RB T H4181 m e8 d8 := (RB_fr hW gm f4186 rfl hrb8)
  have h4205 : KNN T H4181 m e8 d8 := (KNN_fr hW gm f4186 rfl hknn8)
  refine wl_of hX hb cL_987 (xc_V (pc' := 990) (r := m) (as := [vI (H 0 ((i + 1).toNat)), vI (H 0 ((i + 2).toNat))]) (st := []) (lm_11_129) rfl rfl (Nat.le_of_ble_eq_true rfl) w4185 gm sh_42 (by decide) rfl (by decide) (u_259 (e := e8) (d := d8) w4185 gm ⟨by omega, by omega⟩ ⟨by omega, by omega⟩ (by omega) (by assumption) (by assumption) (by assumption) (by assumption) h4204 h4205) (fun R4206 T4207 H4208 p4209 => ?_))
  obtain ⟨e4210, w4212, f4213, z4214, e4211, b4215, p4216⟩ := p4209
  subst e4210
  subst e4211
  obtain ⟨a4217, a4218⟩ := p4216
  show WL _ _ _ _ 990 [(4, vI i), (3, .ref o), (2, .ref m), (1, .ref x), (0, .ref 0)] [vI z4214] _ H4208
  refine wl_of hX hb cL_990 (rw_pop (pc' := 991) rfl rfl ?_)
  refine wl_of hX hb cL_991 (rw_goto (p1 := 1653) (by decide) ?_)
  have k4219 : H4208 x 9 = H4181 x 9 := (f4213 x 9 _ gx rfl)
  have k4220 : H4208 m 6 = H4181 m 6 := (f4213 m 6 _ gm rfl)
  have k4221 : H4208 x 11 = H4181 x 11 := (f4213 x 11 _ gx rfl)
  have k4222 : H4208 m 13 = H4181 m 13 := (f4213 m 13 _ gm rfl)
  have k4223 : H4208 x 8 = H4181 x 8 := (f4213 x 8 _ gx rfl)
  have k4224 : H4208 m 3 = H4181 m 3 := (f4213 m 3 _ gm rfl)
  have k4225 : H4208 x 0 = H x 0 := ((f4213 x 0 _ gx rfl).trans (f4186 x 0 _ gx rfl))
  have q4226 : H4208 x 0 = (tc : Int) := k4225.trans e0
  have k4227 : H4208 m 5 = H m 5 := ((f4213 m 5 _ gm rfl).trans (f4186 m 5 _ gm rfl))
  have q4228 : H4208 m 5 = (tm : Int) := k4227.trans em
  have k4229 : H4208 x 6 = H x 6 := ((f4213 x 6 _ gx rfl).trans (f4186 x 6 _ gx rfl))
  have q4230 : H4208 x 6 = (cu : Int) := k4229.trans ecu
  have k4231 : H4208 x 7 = H x 7 := ((f4213 x 7 _ gx rfl).trans (f4186 x 7 _ gx rfl))
  have q4232 : H4208 x 7 = (dr : Int) := k4231.trans edr
  have h4233 : CEN T H4208 ce8 e8 d8 := (CEN_fr w4185 gce8 f4213 rfl p4189)
  have h4234 : TP T H4208 tc B := (TP_fr w4185 gtc f4213 rfl (TP_fr hW gtc f4186 rfl htc))
  have h4235 : TM T H4208 tm B := (TM_fr w4185 gtm f4213 rfl (TM_fr hW gtm f4186 rfl htm))
  have h4236 : DD T H4208 cu  := (DD_fr w4185 gcu f4213 rfl (DD_fr hW gcu f4186 rfl hcu))
  have h4237 : DD T H4208 dr  := (DD_fr w4185 gdr f4213 rfl (DD_fr hW gdr f4186 rfl hdr))
  have h4238 : DE T H4208 cu  := (DE_fr w4185 gcu f4213 rfl (DE_fr hW gcu f4186 rfl hdec))
  have h4239 : DE T H4208 dr  := (DE_fr w4185 gdr f4213 rfl (DE_fr hW gdr f4186 rfl hded))
  have h4240 : SP T H4208 x C8 := (SP_fr w4185 gx f4213 rfl (SP_fr hW gx f4186 rfl hsp))
  have h4241 : CU T H4208 cu e8 d8 n8 := (CU_fr w4185 gcu f4213 rfl (CU_fr hW gcu f4186 rfl hcu8))
  have h4242 : CY T H4208 cu (d8 0 3) g8 (H cu 17) := (CY_fr w4185 gcu f4213 rfl (CY_fr hW gcu f4186 rfl h4174))
  have k4243 : H4208 x 3 = H x 3 := ((f4213 x 3 _ gx rfl).trans (f4186 x 3 _ gx rfl))
  have q4244 : H4208 x 3 = (ce8 : Int) := k4243.trans ece8
  have h4245 : HDR T H4208 ce8  := (HDR_fr w4185 gce8 f4213 rfl (HDR_fr hW gce8 f4186 rfl hhdr8))
  have h4246 : RY T H4208 m (d8 0 3) g8 (H m 32) := (RY_fr w4185 gm f4213 rfl (RY_fr hW gm f4186 rfl h4175))
  have h4247 : RB T H4208 m e8 d8 := (RB_fr w4185 gm f4213 rfl h4204)
  exact WL.loc hX (by simp) (next T H4208 ⟨⟨w4212, g0, gx, gm, go, by omega, by omega⟩, ⟨_, tc, tm, cu, dr, _, _, _, _, _, ce8, q4226, gtc, h4234, q4228, gtm, h4235, q4230, gcu, q4232, gdr, h4236, h4237, h4238, h4239, h4240, hC1, hC2, h4241, h4247, (h4242).1, (h4246).1, hE, hZ, (by omega), (by assumption), (by omega), (by first | assumption | exact SG_0), q4244, gce8, h4233, h4245, a4218, gm⟩, by omega, by omega⟩ (by omega) (by omega))
set_option maxHeartbeats 4000000 in
theorem wl_c26 {kt : Nat → Option mc_E} {CB SB : Nat} {X : mc_S → Prop} {T : wq_T} {H : wq_H} {Len x m o : Nat} {i : Int} (hX : wlX kt CB SB X) (hb : T.2.1 ≤ CB ∧ T.2.2.1 ≤ SB) (hI : wlJ Len x m o T H) (hL : Len ≤ 3072) (hi : 0 ≤ i ∧ i + 6 ≤ Len) (hb2 : T.2.1 + 20 ≤ CB ∧ T.2.2.1 + 500 ≤ SB)  (next : ∀ T' H', wlJ Len x m o T' H' → T'.2.1 ≤ T.2.1 + 20 → T'.2.2.1 ≤ T.2.2.1 + 500 → WL kt CB SB X 1653 (wlL i x m o) [] T' H') : WL kt CB SB X 994 (wlL i x m o) [] T H := by
  obtain ⟨⟨hW, g0, gx, gm, go, hK, hr⟩, hXI, hY1, hY2⟩ := hI
  refine wl_of hX hb cL_994 (rw_aload_n (pc' := 995) (v := .ref x) rfl rfl rfl ?_)
  refine wl_of hX hb cL_995 (rw_aload_n (pc' := 996) (v := .ref 0) rfl rfl rfl ?_)
  refine wl_of hX hb cL_996 (rw_iload (pc' := 998) (z := i) rfl rfl ?_)
  refine wl_of hX hb cL_998 (rw_iconst (pc' := 999) rfl ?_)
  refine wl_of hX hb cL_999 (rw_iadd (pc' := 1000) rfl ?_)
  refine wl_of hX hb cL_1000 (xa_I (so := 0) (pc' := 1001) (a := 0) hW g0 (wsh_s _) (by omega) (wty_s _ _) (by omega) (by omega) rfl (fun b4248 b4249 => ?_))
  obtain ⟨B, tc, tm, cu, dr, C8, e8, d8, n8, g8, ce8, e0, gtc, htc, em, gtm, htm, ecu, gcu, edr, gdr, hcu, hdr, hdec, hded, hsp, hC1, hC2, hcu8, hrb8, hcg8, hmn8, hE, hZ, hn8, hXA, hV8, hSG, ece8, gce8, hcen8, hhdr8, hknn8, -⟩ := hXI
  have hN3 := RB_n3 hrb8
  have hE13 : ∀ h : Nat, h < 24 → 0 ≤ e8 13 h ∧ e8 13 h ≤ 100 := fun k hk => by
    obtain ⟨s, h1, h2, h3⟩ := hcu8.1.2.2.1
    exact ⟨(h3 k hk).1, (h3 k hk).2.1⟩
  have hXW := hXA.1
  have hXN := hXA.2
  have hE0 : e8 0 3 = d8 0 3 ∧ e8 0 0 = d8 0 0 := by
    have h := hE 0 (by decide)
    exact ⟨congrFun h 3, congrFun h 0⟩
  have u4250 := CU_k hcu8
  have h4251 : CY T H cu (d8 0 3) g8 (H cu 17) := ⟨hcg8, rfl⟩
  have h4252 : RY T H m (d8 0 3) g8 (H m 32) := ⟨hmn8, rfl⟩
  obtain ⟨t9, ht9⟩ : ∃ t : Int, t = H x 9 := ⟨_, rfl⟩
  obtain ⟨y9, hy9⟩ : ∃ y : Int, y = H 0 ((i + 1).toNat) := ⟨_, rfl⟩
  obtain ⟨r4253, q4254, g4255⟩ := hW.ref gx (t' := 6) (n := 13) (j := 2) (p := 0) (q := 0) rfl (by decide) rfl
  refine wl_of hX hb cL_1001 (xc_V (pc' := 1004) (r := x) (as := [vI (H 0 ((i + 1).toNat))]) (st := []) (lm_11_130) rfl rfl (Nat.le_of_ble_eq_true rfl) hW gx sh_1 (by decide) rfl (by decide) (u_112 (e := e8) (d := d8) (n := n8) hW gx ⟨by omega, by omega⟩ ecu gcu q4254 g4255 ece8 gce8 (by assumption) (by assumption) (by omega) (by omega) (by omega) (by omega) hcu8 hcen8 hhdr8) (fun R4256 T4257 H4258 p4259 => ?_))
  obtain ⟨e4260, w4262, f4263, z4264, e4261, b4265, p4266⟩ := p4259
  subst e4260
  subst e4261
  show WL _ _ _ _ 1004 [(4, vI i), (3, .ref o), (2, .ref m), (1, .ref x), (0, .ref 0)] [vL z4264] _ H4258
  refine wl_of hX hb cL_1004 (rw_pop2 (pc' := 1005) rfl rfl ?_)
  refine wl_of hX hb cL_1005 (rw_aload_n (pc' := 1006) (v := .ref m) rfl rfl rfl ?_)
  refine wl_of hX hb cL_1006 (rw_aload_n (pc' := 1007) (v := .ref 0) rfl rfl rfl ?_)
  refine wl_of hX hb cL_1007 (rw_iload (pc' := 1009) (z := i) rfl rfl ?_)
  refine wl_of hX hb cL_1009 (rw_iconst (pc' := 1010) rfl ?_)
  refine wl_of hX hb cL_1010 (rw_iadd (pc' := 1011) rfl ?_)
  have k4270 : H4258 0 ((i + 1).toNat) = H 0 ((i + 1).toNat) := (f4263 0 ((i + 1).toNat) _ g0 (wmem_s rfl))
  refine wl_of hX hb cL_1011 (xa_I (so := 0) (pc' := 1012) (a := 0) w4262 g0 (wsh_s _) (by omega) (wty_s _ _) (by omega) (by omega) rfl (fun b4268 b4269 => ?_))
  have k4271 : wKI H4258 m = wKI H m := (wKI_fr hW gm f4263 rfl)
  have k4272 : H4258 x 9 = H x 9 := (f4263 x 9 _ gx rfl)
  have k4273 : H4258 m 6 = H m 6 := (f4263 m 6 _ gm rfl)
  have k4274 : H4258 x 11 = H x 11 := (f4263 x 11 _ gx rfl)
  have k4275 : H4258 m 13 = H m 13 := (f4263 m 13 _ gm rfl)
  have k4276 : H4258 x 8 = H x 8 := (f4263 x 8 _ gx rfl)
  have k4277 : H4258 m 3 = H m 3 := (f4263 m 3 _ gm rfl)
  rw [show H4258 0 ((i + 1).toNat) = H 0 ((i + 1).toNat) by omega]
  have h4278 : RB T H4258 m e8 d8 := (RB_fr hW gm f4263 rfl hrb8)
  have h4279 : KNN T H4258 m e8 d8 := (KNN_fr hW gm f4263 rfl hknn8)
  refine wl_of hX hb cL_1012 (xc_V (pc' := 1015) (r := m) (as := [vI (H 0 ((i + 1).toNat))]) (st := []) (lm_11_134) rfl rfl (Nat.le_of_ble_eq_true rfl) w4262 gm sh_42 (by decide) rfl (by decide) (u_260 (e := e8) (d := d8) w4262 gm ⟨by omega, by omega⟩ (by omega) (by assumption) (by assumption) (by assumption) (by assumption) h4278 h4279) (fun R4280 T4281 H4282 p4283 => ?_))
  obtain ⟨e4284, w4286, f4287, z4288, e4285, b4289, p4290⟩ := p4283
  subst e4284
  subst e4285
  obtain ⟨a4291, a4292⟩ := p4290
  show WL _ _ _ _ 1015 [(4, vI i), (3, .ref o), (2, .ref m), (1, .ref x), (0, .ref 0)] [vL z4288] _ H4282
  refine wl_of hX hb cL_1015 (rw_pop2 (pc' := 1016) rfl rfl ?_)
  refine wl_of hX hb cL_1016 (rw_goto (p1 := 1653) (by decide) ?_)
  have k4293 : H4282 x 9 = H4258 x 9 := (f4287 x 9 _ gx rfl)
  have k4294 : H4282 m 6 = H4258 m 6 := (f4287 m 6 _ gm rfl)
  have k4295 : H4282 x 11 = H4258 x 11 := (f4287 x 11 _ gx rfl)
  have k4296 : H4282 m 13 = H4258 m 13 := (f4287 m 13 _ gm rfl)
  have k4297 : H4282 x 8 = H4258 x 8 := (f4287 x 8 _ gx rfl)
  have k4298 : H4282 m 3 = H4258 m 3 := (f4287 m 3 _ gm rfl)
  have k4299 : H4282 x 0 = H x 0 := ((f4287 x 0 _ gx rfl).trans (f4263 x 0 _ gx rfl))
  have q4300 : H4282 x 0 = (tc : Int) := k4299.trans e0
  have k4301 : H4282 m 5 = H m 5 := ((f4287 m 5 _ gm rfl).trans (f4263 m 5 _ gm rfl))
  have q4302 : H4282 m 5 = (tm : Int) := k4301.trans em
  have k4303 : H4282 x 6 = H x 6 := ((f4287 x 6 _ gx rfl).trans (f4263 x 6 _ gx rfl))
  have q4304 : H4282 x 6 = (cu : Int) := k4303.trans ecu
  have k4305 : H4282 x 7 = H x 7 := ((f4287 x 7 _ gx rfl).trans (f4263 x 7 _ gx rfl))
  have q4306 : H4282 x 7 = (dr : Int) := k4305.trans edr
  have h4307 : CEN T H4282 ce8 e8 d8 := (CEN_fr w4262 gce8 f4287 rfl p4266)
  have h4308 : TP T H4282 tc B := (TP_fr w4262 gtc f4287 rfl (TP_fr hW gtc f4263 rfl htc))
  have h4309 : TM T H4282 tm B := (TM_fr w4262 gtm f4287 rfl (TM_fr hW gtm f4263 rfl htm))
  have h4310 : DD T H4282 cu  := (DD_fr w4262 gcu f4287 rfl (DD_fr hW gcu f4263 rfl hcu))
  have h4311 : DD T H4282 dr  := (DD_fr w4262 gdr f4287 rfl (DD_fr hW gdr f4263 rfl hdr))
  have h4312 : DE T H4282 cu  := (DE_fr w4262 gcu f4287 rfl (DE_fr hW gcu f4263 rfl hdec))
  have h4313 : DE T H4282 dr  := (DE_fr w4262 gdr f4287 rfl (DE_fr hW gdr f4263 rfl hded))
  have h4314 : SP T H4282 x C8 := (SP_fr w4262 gx f4287 rfl (SP_fr hW gx f4263 rfl hsp))
  have h4315 : CU T H4282 cu e8 d8 n8 := (CU_fr w4262 gcu f4287 rfl (CU_fr hW gcu f4263 rfl hcu8))
  have h4316 : CY T H4282 cu (d8 0 3) g8 (H cu 17) := (CY_fr w4262 gcu f4287 rfl (CY_fr hW gcu f4263 rfl h4251))
  have k4317 : H4282 x 3 = H x 3 := ((f4287 x 3 _ gx rfl).trans (f4263 x 3 _ gx rfl))
  have q4318 : H4282 x 3 = (ce8 : Int) := k4317.trans ece8
  have h4319 : HDR T H4282 ce8  := (HDR_fr w4262 gce8 f4287 rfl (HDR_fr hW gce8 f4263 rfl hhdr8))
  have h4320 : RY T H4282 m (d8 0 3) g8 (H m 32) := (RY_fr w4262 gm f4287 rfl (RY_fr hW gm f4263 rfl h4252))
  have h4321 : RB T H4282 m e8 d8 := (RB_fr w4262 gm f4287 rfl h4278)
  exact WL.loc hX (by simp) (next T H4282 ⟨⟨w4286, g0, gx, gm, go, by omega, by omega⟩, ⟨_, tc, tm, cu, dr, _, _, _, _, _, ce8, q4300, gtc, h4308, q4302, gtm, h4309, q4304, gcu, q4306, gdr, h4310, h4311, h4312, h4313, h4314, hC1, hC2, h4315, h4321, (h4316).1, (h4320).1, hE, hZ, (by omega), (by assumption), (by omega), (by first | assumption | exact SG_0), q4318, gce8, h4307, h4319, a4292, gm⟩, by omega, by omega⟩ (by omega) (by omega))
set_option maxHeartbeats 4000000 in
theorem wl_c27 {kt : Nat → Option mc_E} {CB SB : Nat} {X : mc_S → Prop} {T : wq_T} {H : wq_H} {Len x m o : Nat} {i : Int} (hX : wlX kt CB SB X) (hb : T.2.1 ≤ CB ∧ T.2.2.1 ≤ SB) (hI : wlJ Len x m o T H) (hL : Len ≤ 3072) (hi : 0 ≤ i ∧ i + 6 ≤ Len) (hb2 : T.2.1 + 20 ≤ CB ∧ T.2.2.1 + 500 ≤ SB)  (next : ∀ T' H', wlJ Len x m o T' H' → T'.2.1 ≤ T.2.1 + 20 → T'.2.2.1 ≤ T.2.2.1 + 500 → WL kt CB SB X 1653 (wlL i x m o) [] T' H') : WL kt CB SB X 1019 (wlL i x m o) [] T H := by
  obtain ⟨⟨hW, g0, gx, gm, go, hK, hr⟩, hXI, hY1, hY2⟩ := hI
  refine wl_of hX hb cL_1019 (rw_aload_n (pc' := 1020) (v := .ref x) rfl rfl rfl ?_)
  refine wl_of hX hb cL_1020 (rw_aload_n (pc' := 1021) (v := .ref 0) rfl rfl rfl ?_)
  refine wl_of hX hb cL_1021 (rw_iload (pc' := 1023) (z := i) rfl rfl ?_)
  refine wl_of hX hb cL_1023 (rw_iconst (pc' := 1024) rfl ?_)
  refine wl_of hX hb cL_1024 (rw_iadd (pc' := 1025) rfl ?_)
  refine wl_of hX hb cL_1025 (xa_I (so := 0) (pc' := 1026) (a := 0) hW g0 (wsh_s _) (by omega) (wty_s _ _) (by omega) (by omega) rfl (fun b4322 b4323 => ?_))
  refine wl_of hX hb cL_1026 (rw_aload_n (pc' := 1027) (v := .ref 0) rfl rfl rfl ?_)
  refine wl_of hX hb cL_1027 (rw_iload (pc' := 1029) (z := i) rfl rfl ?_)
  refine wl_of hX hb cL_1029 (rw_iconst (pc' := 1030) rfl ?_)
  refine wl_of hX hb cL_1030 (rw_iadd (pc' := 1031) rfl ?_)
  refine wl_of hX hb cL_1031 (xa_I (so := 0) (pc' := 1032) (a := 0) hW g0 (wsh_s _) (by omega) (wty_s _ _) (by omega) (by omega) rfl (fun b4324 b4325 => ?_))
  obtain ⟨B, tc, tm, cu, dr, C8, e8, d8, n8, g8, ce8, e0, gtc, htc, em, gtm, htm, ecu, gcu, edr, gdr, hcu, hdr, hdec, hded, hsp, hC1, hC2, hcu8, hrb8, hcg8, hmn8, hE, hZ, hn8, hXA, hV8, hSG, ece8, gce8, hcen8, hhdr8, hknn8, -⟩ := hXI
  have hN3 := RB_n3 hrb8
  have hE13 : ∀ h : Nat, h < 24 → 0 ≤ e8 13 h ∧ e8 13 h ≤ 100 := fun k hk => by
    obtain ⟨s, h1, h2, h3⟩ := hcu8.1.2.2.1
    exact ⟨(h3 k hk).1, (h3 k hk).2.1⟩
  have hXW := hXA.1
  have hXN := hXA.2
  have hE0 : e8 0 3 = d8 0 3 ∧ e8 0 0 = d8 0 0 := by
    have h := hE 0 (by decide)
    exact ⟨congrFun h 3, congrFun h 0⟩
  have u4326 := CU_k hcu8
  have h4327 : CY T H cu (d8 0 3) g8 (H cu 17) := ⟨hcg8, rfl⟩
  have h4328 : RY T H m (d8 0 3) g8 (H m 32) := ⟨hmn8, rfl⟩
  obtain ⟨t9, ht9⟩ : ∃ t : Int, t = H x 9 := ⟨_, rfl⟩
  obtain ⟨y9, hy9⟩ : ∃ y : Int, y = H 0 ((i + 2).toNat) := ⟨_, rfl⟩
  obtain ⟨r4329, q4330, g4331⟩ := hW.ref gx (t' := 6) (n := 13) (j := 2) (p := 0) (q := 0) rfl (by decide) rfl
  refine wl_of hX hb cL_1032 (xc_V (pc' := 1035) (r := x) (as := [vI (H 0 ((i + 1).toNat)), vI (H 0 ((i + 2).toNat))]) (st := []) (lm_11_135) rfl rfl (Nat.le_of_ble_eq_true rfl) hW gx sh_1 (by decide) rfl (by decide) (u_114 (e := e8) (d := d8) (n := n8) hW gx ⟨by omega, by omega⟩ ⟨by omega, by omega⟩ ecu gcu q4330 g4331 ece8 gce8 (by assumption) (by assumption) (by omega) (by omega) (by omega) (by omega) hcu8 hcen8 hhdr8) (fun R4332 T4333 H4334 p4335 => ?_))
  obtain ⟨e4336, w4338, f4339, z4340, e4337, b4341, p4342⟩ := p4335
  subst e4336
  subst e4337
  show WL _ _ _ _ 1035 [(4, vI i), (3, .ref o), (2, .ref m), (1, .ref x), (0, .ref 0)] [vI z4340] _ H4334
  refine wl_of hX hb cL_1035 (rw_pop (pc' := 1036) rfl rfl ?_)
  refine wl_of hX hb cL_1036 (rw_aload_n (pc' := 1037) (v := .ref m) rfl rfl rfl ?_)
  refine wl_of hX hb cL_1037 (rw_aload_n (pc' := 1038) (v := .ref 0) rfl rfl rfl ?_)
  refine wl_of hX hb cL_1038 (rw_iload (pc' := 1040) (z := i) rfl rfl ?_)
  refine wl_of hX hb cL_1040 (rw_iconst (pc' := 1041) rfl ?_)
  refine wl_of hX hb cL_1041 (rw_iadd (pc' := 1042) rfl ?_)
  have k4346 : H4334 0 ((i + 1).toNat) = H 0 ((i + 1).toNat) := (f4339 0 ((i + 1).toNat) _ g0 (wmem_s rfl))
  refine wl_of hX hb cL_1042 (xa_I (so := 0) (pc' := 1043) (a := 0) w4338 g0 (wsh_s _) (by omega) (wty_s _ _) (by omega) (by omega) rfl (fun b4344 b4345 => ?_))
  refine wl_of hX hb cL_1043 (rw_aload_n (pc' := 1044) (v := .ref 0) rfl rfl rfl ?_)
  refine wl_of hX hb cL_1044 (rw_iload (pc' := 1046) (z := i) rfl rfl ?_)
  refine wl_of hX hb cL_1046 (rw_iconst (pc' := 1047) rfl ?_)
  refine wl_of hX hb cL_1047 (rw_iadd (pc' := 1048) rfl ?_)
  have k4349 : H4334 0 ((i + 2).toNat) = H 0 ((i + 2).toNat) := (f4339 0 ((i + 2).toNat) _ g0 (wmem_s rfl))
  refine wl_of hX hb cL_1048 (xa_I (so := 0) (pc' := 1049) (a := 0) w4338 g0 (wsh_s _) (by omega) (wty_s _ _) (by omega) (by omega) rfl (fun b4347 b4348 => ?_))
  have k4350 : wKI H4334 m = wKI H m := (wKI_fr hW gm f4339 rfl)
  have k4351 : H4334 x 9 = H x 9 := (f4339 x 9 _ gx rfl)
  have k4352 : H4334 m 6 = H m 6 := (f4339 m 6 _ gm rfl)
  have k4353 : H4334 x 11 = H x 11 := (f4339 x 11 _ gx rfl)
  have k4354 : H4334 m 13 = H m 13 := (f4339 m 13 _ gm rfl)
  have k4355 : H4334 x 8 = H x 8 := (f4339 x 8 _ gx rfl)
  have k4356 : H4334 m 3 = H m 3 := (f4339 m 3 _ gm rfl)
  rw [show H4334 0 ((i + 2).toNat) = H 0 ((i + 2).toNat) by omega]
  rw [show H4334 0 ((i + 1).toNat) = H 0 ((i + 1).toNat) by omega]
  have h4357 : RB T H4334 m e8 d8 := (RB_fr hW gm f4339 rfl hrb8)
  have h4358 : KNN T H4334 m e8 d8 := (KNN_fr hW gm f4339 rfl hknn8)
  refine wl_of hX hb cL_1049 (xc_V (pc' := 1052) (r := m) (as := [vI (H 0 ((i + 1).toNat)), vI (H 0 ((i + 2).toNat))]) (st := []) (lm_11_138) rfl rfl (Nat.le_of_ble_eq_true rfl) w4338 gm sh_42 (by decide) rfl (by decide) (u_261 (e := e8) (d := d8) w4338 gm ⟨by omega, by omega⟩ ⟨by omega, by omega⟩ (by omega) (by assumption) (by assumption) (by assumption) (by assumption) h4357 h4358) (fun R4359 T4360 H4361 p4362 => ?_))
  obtain ⟨e4363, w4365, f4366, z4367, e4364, b4368, p4369⟩ := p4362
  subst e4363
  subst e4364
  obtain ⟨a4370, a4371⟩ := p4369
  show WL _ _ _ _ 1052 [(4, vI i), (3, .ref o), (2, .ref m), (1, .ref x), (0, .ref 0)] [vI z4367] _ H4361
  refine wl_of hX hb cL_1052 (rw_pop (pc' := 1053) rfl rfl ?_)
  refine wl_of hX hb cL_1053 (rw_goto (p1 := 1653) (by decide) ?_)
  have k4372 : H4361 x 9 = H4334 x 9 := (f4366 x 9 _ gx rfl)
  have k4373 : H4361 m 6 = H4334 m 6 := (f4366 m 6 _ gm rfl)
  have k4374 : H4361 x 11 = H4334 x 11 := (f4366 x 11 _ gx rfl)
  have k4375 : H4361 m 13 = H4334 m 13 := (f4366 m 13 _ gm rfl)
  have k4376 : H4361 x 8 = H4334 x 8 := (f4366 x 8 _ gx rfl)
  have k4377 : H4361 m 3 = H4334 m 3 := (f4366 m 3 _ gm rfl)
  have k4378 : H4361 x 0 = H x 0 := ((f4366 x 0 _ gx rfl).trans (f4339 x 0 _ gx rfl))
  have q4379 : H4361 x 0 = (tc : Int) := k4378.trans e0
  have k4380 : H4361 m 5 = H m 5 := ((f4366 m 5 _ gm rfl).trans (f4339 m 5 _ gm rfl))
  have q4381 : H4361 m 5 = (tm : Int) := k4380.trans em
  have k4382 : H4361 x 6 = H x 6 := ((f4366 x 6 _ gx rfl).trans (f4339 x 6 _ gx rfl))
  have q4383 : H4361 x 6 = (cu : Int) := k4382.trans ecu
  have k4384 : H4361 x 7 = H x 7 := ((f4366 x 7 _ gx rfl).trans (f4339 x 7 _ gx rfl))
  have q4385 : H4361 x 7 = (dr : Int) := k4384.trans edr
  have h4386 : CEN T H4361 ce8 e8 d8 := (CEN_fr w4338 gce8 f4366 rfl p4342)
  have h4387 : TP T H4361 tc B := (TP_fr w4338 gtc f4366 rfl (TP_fr hW gtc f4339 rfl htc))
  have h4388 : TM T H4361 tm B := (TM_fr w4338 gtm f4366 rfl (TM_fr hW gtm f4339 rfl htm))
  have h4389 : DD T H4361 cu  := (DD_fr w4338 gcu f4366 rfl (DD_fr hW gcu f4339 rfl hcu))
  have h4390 : DD T H4361 dr  := (DD_fr w4338 gdr f4366 rfl (DD_fr hW gdr f4339 rfl hdr))
  have h4391 : DE T H4361 cu  := (DE_fr w4338 gcu f4366 rfl (DE_fr hW gcu f4339 rfl hdec))
  have h4392 : DE T H4361 dr  := (DE_fr w4338 gdr f4366 rfl (DE_fr hW gdr f4339 rfl hded))
  have h4393 : SP T H4361 x C8 := (SP_fr w4338 gx f4366 rfl (SP_fr hW gx f4339 rfl hsp))
  have h4394 : CU T H4361 cu e8 d8 n8 := (CU_fr w4338 gcu f4366 rfl (CU_fr hW gcu f4339 rfl hcu8))
  have h4395 : CY T H4361 cu (d8 0 3) g8 (H cu 17) := (CY_fr w4338 gcu f4366 rfl (CY_fr hW gcu f4339 rfl h4327))
  have k4396 : H4361 x 3 = H x 3 := ((f4366 x 3 _ gx rfl).trans (f4339 x 3 _ gx rfl))
  have q4397 : H4361 x 3 = (ce8 : Int) := k4396.trans ece8
  have h4398 : HDR T H4361 ce8  := (HDR_fr w4338 gce8 f4366 rfl (HDR_fr hW gce8 f4339 rfl hhdr8))
  have h4399 : RY T H4361 m (d8 0 3) g8 (H m 32) := (RY_fr w4338 gm f4366 rfl (RY_fr hW gm f4339 rfl h4328))
  have h4400 : RB T H4361 m e8 d8 := (RB_fr w4338 gm f4366 rfl h4357)
  exact WL.loc hX (by simp) (next T H4361 ⟨⟨w4365, g0, gx, gm, go, by omega, by omega⟩, ⟨_, tc, tm, cu, dr, _, _, _, _, _, ce8, q4379, gtc, h4387, q4381, gtm, h4388, q4383, gcu, q4385, gdr, h4389, h4390, h4391, h4392, h4393, hC1, hC2, h4394, h4400, (h4395).1, (h4399).1, hE, hZ, (by omega), (by assumption), (by omega), (by first | assumption | exact SG_0), q4397, gce8, h4386, h4398, a4371, gm⟩, by omega, by omega⟩ (by omega) (by omega))
set_option maxHeartbeats 4000000 in
theorem wl_c28 {kt : Nat → Option mc_E} {CB SB : Nat} {X : mc_S → Prop} {T : wq_T} {H : wq_H} {Len x m o : Nat} {i : Int} (hX : wlX kt CB SB X) (hb : T.2.1 ≤ CB ∧ T.2.2.1 ≤ SB) (hI : wlJ Len x m o T H) (hL : Len ≤ 3072) (hi : 0 ≤ i ∧ i + 6 ≤ Len) (hb2 : T.2.1 + 20 ≤ CB ∧ T.2.2.1 + 500 ≤ SB)  (next : ∀ T' H', wlJ Len x m o T' H' → T'.2.1 ≤ T.2.1 + 20 → T'.2.2.1 ≤ T.2.2.1 + 500 → WL kt CB SB X 1653 (wlL i x m o) [] T' H') : WL kt CB SB X 1056 (wlL i x m o) [] T H := by
  obtain ⟨⟨hW, g0, gx, gm, go, hK, hr⟩, hXI, hY1, hY2⟩ := hI
  refine wl_of hX hb cL_1056 (rw_aload_n (pc' := 1057) (v := .ref x) rfl rfl rfl ?_)
  refine wl_of hX hb cL_1057 (rw_aload_n (pc' := 1058) (v := .ref 0) rfl rfl rfl ?_)
  refine wl_of hX hb cL_1058 (rw_iload (pc' := 1060) (z := i) rfl rfl ?_)
  refine wl_of hX hb cL_1060 (rw_iconst (pc' := 1061) rfl ?_)
  refine wl_of hX hb cL_1061 (rw_iadd (pc' := 1062) rfl ?_)
  refine wl_of hX hb cL_1062 (xa_I (so := 0) (pc' := 1063) (a := 0) hW g0 (wsh_s _) (by omega) (wty_s _ _) (by omega) (by omega) rfl (fun b4401 b4402 => ?_))
  refine wl_of hX hb cL_1063 (rw_aload_n (pc' := 1064) (v := .ref 0) rfl rfl rfl ?_)
  refine wl_of hX hb cL_1064 (rw_iload (pc' := 1066) (z := i) rfl rfl ?_)
  refine wl_of hX hb cL_1066 (rw_iconst (pc' := 1067) rfl ?_)
  refine wl_of hX hb cL_1067 (rw_iadd (pc' := 1068) rfl ?_)
  refine wl_of hX hb cL_1068 (xa_I (so := 0) (pc' := 1069) (a := 0) hW g0 (wsh_s _) (by omega) (wty_s _ _) (by omega) (by omega) rfl (fun b4403 b4404 => ?_))
  refine wl_of hX hb cL_1069 (rw_if_eq (p1 := 1076) (p2 := 1072) (by decide) rfl ⟨by omega, by omega⟩ (fun c4405 => ?_) (fun c4405 => ?_))
  · refine wl_of hX hb cL_1076 (rw_iconst (pc' := 1077) rfl ?_)
    obtain ⟨B, tc, tm, cu, dr, C8, e8, d8, n8, g8, ce8, e0, gtc, htc, em, gtm, htm, ecu, gcu, edr, gdr, hcu, hdr, hdec, hded, hsp, hC1, hC2, hcu8, hrb8, hcg8, hmn8, hE, hZ, hn8, hXA, hV8, hSG, ece8, gce8, hcen8, hhdr8, hknn8, -⟩ := hXI
    have hN3 := RB_n3 hrb8
    have hE13 : ∀ h : Nat, h < 24 → 0 ≤ e8 13 h ∧ e8 13 h ≤ 100 := fun k hk => by
      obtain ⟨s, h1, h2, h3⟩ := hcu8.1.2.2.1
      exact ⟨(h3 k hk).1, (h3 k hk).2.1⟩
    have hXW := hXA.1
    have hXN := hXA.2
    have hE0 : e8 0 3 = d8 0 3 ∧ e8 0 0 = d8 0 0 := by
      have h := hE 0 (by decide)
      exact ⟨congrFun h 3, congrFun h 0⟩
    have u4406 := CU_k hcu8
    have h4407 : CY T H cu (d8 0 3) g8 (H cu 17) := ⟨hcg8, rfl⟩
    have h4408 : RY T H m (d8 0 3) g8 (H m 32) := ⟨hmn8, rfl⟩
    obtain ⟨t9, ht9⟩ : ∃ t : Int, t = H x 9 := ⟨_, rfl⟩
    obtain ⟨y9, hy9⟩ : ∃ y : Int, y = 0 := ⟨_, rfl⟩
    obtain ⟨r4409, q4410, g4411⟩ := hW.ref gx (t' := 6) (n := 13) (j := 2) (p := 0) (q := 0) rfl (by decide) rfl
    refine wl_of hX hb cL_1077 (xc_V (pc' := 1080) (r := x) (as := [vI (H 0 ((i + 1).toNat)), vI 0]) (st := []) (lm_11_139) rfl rfl (Nat.le_of_ble_eq_true rfl) hW gx sh_1 (by decide) rfl (by decide) (u_117 (e := e8) (d := d8) (n := n8) hW gx ⟨by omega, by omega⟩ ⟨by decide, by decide⟩ ecu gcu q4410 g4411 ece8 gce8 (by assumption) (by assumption) (by omega) (by omega) (by omega) (by omega) hcu8 hcen8 hhdr8) (fun R4412 T4413 H4414 p4415 => ?_))
    obtain ⟨e4416, w4418, f4419, z4420, e4417, b4421, p4422⟩ := p4415
    subst e4416
    subst e4417
    show WL _ _ _ _ 1080 [(4, vI i), (3, .ref o), (2, .ref m), (1, .ref x), (0, .ref 0)] [vI z4420] _ H4414
    refine wl_of hX hb cL_1080 (rw_pop (pc' := 1081) rfl rfl ?_)
    refine wl_of hX hb cL_1081 (rw_aload_n (pc' := 1082) (v := .ref m) rfl rfl rfl ?_)
    refine wl_of hX hb cL_1082 (rw_aload_n (pc' := 1083) (v := .ref 0) rfl rfl rfl ?_)
    refine wl_of hX hb cL_1083 (rw_iload (pc' := 1085) (z := i) rfl rfl ?_)
    refine wl_of hX hb cL_1085 (rw_iconst (pc' := 1086) rfl ?_)
    refine wl_of hX hb cL_1086 (rw_iadd (pc' := 1087) rfl ?_)
    have k4426 : H4414 0 ((i + 1).toNat) = H 0 ((i + 1).toNat) := (f4419 0 ((i + 1).toNat) _ g0 (wmem_s rfl))
    refine wl_of hX hb cL_1087 (xa_I (so := 0) (pc' := 1088) (a := 0) w4418 g0 (wsh_s _) (by omega) (wty_s _ _) (by omega) (by omega) rfl (fun b4424 b4425 => ?_))
    refine wl_of hX hb cL_1088 (rw_aload_n (pc' := 1089) (v := .ref 0) rfl rfl rfl ?_)
    refine wl_of hX hb cL_1089 (rw_iload (pc' := 1091) (z := i) rfl rfl ?_)
    refine wl_of hX hb cL_1091 (rw_iconst (pc' := 1092) rfl ?_)
    refine wl_of hX hb cL_1092 (rw_iadd (pc' := 1093) rfl ?_)
    have k4429 : H4414 0 ((i + 2).toNat) = H 0 ((i + 2).toNat) := (f4419 0 ((i + 2).toNat) _ g0 (wmem_s rfl))
    refine wl_of hX hb cL_1093 (xa_I (so := 0) (pc' := 1094) (a := 0) w4418 g0 (wsh_s _) (by omega) (wty_s _ _) (by omega) (by omega) rfl (fun b4427 b4428 => ?_))
    refine wl_of hX hb cL_1094 (rw_if_eq (p1 := 1101) (p2 := 1097) (by decide) rfl ⟨by omega, by omega⟩ (fun c4430 => ?_) (fun c4430 => ?_))
    · refine wl_of hX hb cL_1101 (rw_iconst (pc' := 1102) rfl ?_)
      have k4431 : wKI H4414 m = wKI H m := (wKI_fr hW gm f4419 rfl)
      have k4432 : H4414 x 9 = H x 9 := (f4419 x 9 _ gx rfl)
      have k4433 : H4414 m 6 = H m 6 := (f4419 m 6 _ gm rfl)
      have k4434 : H4414 x 11 = H x 11 := (f4419 x 11 _ gx rfl)
      have k4435 : H4414 m 13 = H m 13 := (f4419 m 13 _ gm rfl)
      have k4436 : H4414 x 8 = H x 8 := (f4419 x 8 _ gx rfl)
      have k4437 : H4414 m 3 = H m 3 := (f4419 m 3 _ gm rfl)
      rw [show H4414 0 ((i + 1).toNat) = H 0 ((i + 1).toNat) by omega]
      have h4438 : RB T H4414 m e8 d8 := (RB_fr hW gm f4419 rfl hrb8)
      have h4439 : KNN T H4414 m e8 d8 := (KNN_fr hW gm f4419 rfl hknn8)
      refine wl_of hX hb cL_1102 (xc_V (pc' := 1105) (r := m) (as := [vI (H 0 ((i + 1).toNat)), vI 0]) (st := []) (lm_11_142) rfl rfl (Nat.le_of_ble_eq_true rfl) w4418 gm sh_42 (by decide) rfl (by decide) (u_263 (e := e8) (d := d8) w4418 gm ⟨by omega, by omega⟩ ⟨by decide, by decide⟩ (by omega) (by assumption) (by assumption) (by assumption) (by assumption) h4438 h4439) (fun R4440 T4441 H4442 p4443 => ?_))
      obtain ⟨e4444, w4446, f4447, z4448, e4445, b4449, p4450⟩ := p4443
      subst e4444
      subst e4445
      obtain ⟨a4451, a4452⟩ := p4450
      show WL _ _ _ _ 1105 [(4, vI i), (3, .ref o), (2, .ref m), (1, .ref x), (0, .ref 0)] [vI z4448] _ H4442
      refine wl_of hX hb cL_1105 (rw_pop (pc' := 1106) rfl rfl ?_)
      refine wl_of hX hb cL_1106 (rw_goto (p1 := 1653) (by decide) ?_)
      have k4453 : H4442 x 9 = H4414 x 9 := (f4447 x 9 _ gx rfl)
      have k4454 : H4442 m 6 = H4414 m 6 := (f4447 m 6 _ gm rfl)
      have k4455 : H4442 x 11 = H4414 x 11 := (f4447 x 11 _ gx rfl)
      have k4456 : H4442 m 13 = H4414 m 13 := (f4447 m 13 _ gm rfl)
      have k4457 : H4442 x 8 = H4414 x 8 := (f4447 x 8 _ gx rfl)
      have k4458 : H4442 m 3 = H4414 m 3 := (f4447 m 3 _ gm rfl)
      have k4459 : H4442 x 0 = H x 0 := ((f4447 x 0 _ gx rfl).trans (f4419 x 0 _ gx rfl))
      have q4460 : H4442 x 0 = (tc : Int) := k4459.trans e0
      have k4461 : H4442 m 5 = H m 5 := ((f4447 m 5 _ gm rfl).trans (f4419 m 5 _ gm rfl))
      have q4462 : H4442 m 5 = (tm : Int) := k4461.trans em
      have k4463 : H4442 x 6 = H x 6 := ((f4447 x 6 _ gx rfl).trans (f4419 x 6 _ gx rfl))
      have q4464 : H4442 x 6 = (cu : Int) := k4463.trans ecu
      have k4465 : H4442 x 7 = H x 7 := ((f4447 x 7 _ gx rfl).trans (f4419 x 7 _ gx rfl))
      have q4466 : H4442 x 7 = (dr : Int) := k4465.trans edr
      have h4467 : CEN T H4442 ce8 e8 d8 := (CEN_fr w4418 gce8 f4447 rfl p4422)
      have h4468 : TP T H4442 tc B := (TP_fr w4418 gtc f4447 rfl (TP_fr hW gtc f4419 rfl htc))
      have h4469 : TM T H4442 tm B := (TM_fr w4418 gtm f4447 rfl (TM_fr hW gtm f4419 rfl htm))
      have h4470 : DD T H4442 cu  := (DD_fr w4418 gcu f4447 rfl (DD_fr hW gcu f4419 rfl hcu))
      have h4471 : DD T H4442 dr  := (DD_fr w4418 gdr f4447 rfl (DD_fr hW gdr f4419 rfl hdr))
      have h4472 : DE T H4442 cu  := (DE_fr w4418 gcu f4447 rfl (DE_fr hW gcu f4419 rfl hdec))
      have h4473 : DE T H4442 dr  := (DE_fr w4418 gdr f4447 rfl (DE_fr hW gdr f4419 rfl hded))
      have h4474 : SP T H4442 x C8 := (SP_fr w4418 gx f4447 rfl (SP_fr hW gx f4419 rfl hsp))
      have h4475 : CU T H4442 cu e8 d8 n8 := (CU_fr w4418 gcu f4447 rfl (CU_fr hW gcu f4419 rfl hcu8))
      have h4476 : CY T H4442 cu (d8 0 3) g8 (H cu 17) := (CY_fr w4418 gcu f4447 rfl (CY_fr hW gcu f4419 rfl h4407))
      have k4477 : H4442 x 3 = H x 3 := ((f4447 x 3 _ gx rfl).trans (f4419 x 3 _ gx rfl))
      have q4478 : H4442 x 3 = (ce8 : Int) := k4477.trans ece8
      have h4479 : HDR T H4442 ce8  := (HDR_fr w4418 gce8 f4447 rfl (HDR_fr hW gce8 f4419 rfl hhdr8))
      have h4480 : RY T H4442 m (d8 0 3) g8 (H m 32) := (RY_fr w4418 gm f4447 rfl (RY_fr hW gm f4419 rfl h4408))
      have h4481 : RB T H4442 m e8 d8 := (RB_fr w4418 gm f4447 rfl h4438)
      exact WL.loc hX (by simp) (next T H4442 ⟨⟨w4446, g0, gx, gm, go, by omega, by omega⟩, ⟨_, tc, tm, cu, dr, _, _, _, _, _, ce8, q4460, gtc, h4468, q4462, gtm, h4469, q4464, gcu, q4466, gdr, h4470, h4471, h4472, h4473, h4474, hC1, hC2, h4475, h4481, (h4476).1, (h4480).1, hE, hZ, (by omega), (by assumption), (by omega), (by first | assumption | exact SG_0), q4478, gce8, h4467, h4479, a4452, gm⟩, by omega, by omega⟩ (by omega) (by omega))
    · exfalso
      omega
  · refine wl_of hX hb cL_1072 (rw_iconst (pc' := 1073) rfl ?_)
    refine wl_of hX hb cL_1073 (rw_goto (p1 := 1077) (by decide) ?_)
    obtain ⟨B, tc, tm, cu, dr, C8, e8, d8, n8, g8, ce8, e0, gtc, htc, em, gtm, htm, ecu, gcu, edr, gdr, hcu, hdr, hdec, hded, hsp, hC1, hC2, hcu8, hrb8, hcg8, hmn8, hE, hZ, hn8, hXA, hV8, hSG, ece8, gce8, hcen8, hhdr8, hknn8, -⟩ := hXI
    have hN3 := RB_n3 hrb8
    have hE13 : ∀ h : Nat, h < 24 → 0 ≤ e8 13 h ∧ e8 13 h ≤ 100 := fun k hk => by
      obtain ⟨s, h1, h2, h3⟩ := hcu8.1.2.2.1
      exact ⟨(h3 k hk).1, (h3 k hk).2.1⟩
    have hXW := hXA.1
    have hXN := hXA.2
    have hE0 : e8 0 3 = d8 0 3 ∧ e8 0 0 = d8 0 0 := by
      have h := hE 0 (by decide)
      exact ⟨congrFun h 3, congrFun h 0⟩
    have u4482 := CU_k hcu8
    have h4483 : CY T H cu (d8 0 3) g8 (H cu 17) := ⟨hcg8, rfl⟩
    have h4484 : RY T H m (d8 0 3) g8 (H m 32) := ⟨hmn8, rfl⟩
    obtain ⟨t9, ht9⟩ : ∃ t : Int, t = H x 9 := ⟨_, rfl⟩
    obtain ⟨y9, hy9⟩ : ∃ y : Int, y = 1 := ⟨_, rfl⟩
    obtain ⟨r4485, q4486, g4487⟩ := hW.ref gx (t' := 6) (n := 13) (j := 2) (p := 0) (q := 0) rfl (by decide) rfl
    refine wl_of hX hb cL_1077 (xc_V (pc' := 1080) (r := x) (as := [vI (H 0 ((i + 1).toNat)), vI 1]) (st := []) (lm_11_139) rfl rfl (Nat.le_of_ble_eq_true rfl) hW gx sh_1 (by decide) rfl (by decide) (u_117 (e := e8) (d := d8) (n := n8) hW gx ⟨by omega, by omega⟩ ⟨by decide, by decide⟩ ecu gcu q4486 g4487 ece8 gce8 (by assumption) (by assumption) (by omega) (by omega) (by omega) (by omega) hcu8 hcen8 hhdr8) (fun R4488 T4489 H4490 p4491 => ?_))
    obtain ⟨e4492, w4494, f4495, z4496, e4493, b4497, p4498⟩ := p4491
    subst e4492
    subst e4493
    show WL _ _ _ _ 1080 [(4, vI i), (3, .ref o), (2, .ref m), (1, .ref x), (0, .ref 0)] [vI z4496] _ H4490
    refine wl_of hX hb cL_1080 (rw_pop (pc' := 1081) rfl rfl ?_)
    refine wl_of hX hb cL_1081 (rw_aload_n (pc' := 1082) (v := .ref m) rfl rfl rfl ?_)
    refine wl_of hX hb cL_1082 (rw_aload_n (pc' := 1083) (v := .ref 0) rfl rfl rfl ?_)
    refine wl_of hX hb cL_1083 (rw_iload (pc' := 1085) (z := i) rfl rfl ?_)
    refine wl_of hX hb cL_1085 (rw_iconst (pc' := 1086) rfl ?_)
    refine wl_of hX hb cL_1086 (rw_iadd (pc' := 1087) rfl ?_)
    have k4502 : H4490 0 ((i + 1).toNat) = H 0 ((i + 1).toNat) := (f4495 0 ((i + 1).toNat) _ g0 (wmem_s rfl))
    refine wl_of hX hb cL_1087 (xa_I (so := 0) (pc' := 1088) (a := 0) w4494 g0 (wsh_s _) (by omega) (wty_s _ _) (by omega) (by omega) rfl (fun b4500 b4501 => ?_))
    refine wl_of hX hb cL_1088 (rw_aload_n (pc' := 1089) (v := .ref 0) rfl rfl rfl ?_)
    refine wl_of hX hb cL_1089 (rw_iload (pc' := 1091) (z := i) rfl rfl ?_)
    refine wl_of hX hb cL_1091 (rw_iconst (pc' := 1092) rfl ?_)
    refine wl_of hX hb cL_1092 (rw_iadd (pc' := 1093) rfl ?_)
    have k4505 : H4490 0 ((i + 2).toNat) = H 0 ((i + 2).toNat) := (f4495 0 ((i + 2).toNat) _ g0 (wmem_s rfl))
    refine wl_of hX hb cL_1093 (xa_I (so := 0) (pc' := 1094) (a := 0) w4494 g0 (wsh_s _) (by omega) (wty_s _ _) (by omega) (by omega) rfl (fun b4503 b4504 => ?_))
    refine wl_of hX hb cL_1094 (rw_if_eq (p1 := 1101) (p2 := 1097) (by decide) rfl ⟨by omega, by omega⟩ (fun c4506 => ?_) (fun c4506 => ?_))
    · refine wl_of hX hb cL_1101 (rw_iconst (pc' := 1102) rfl ?_)
      have k4507 : wKI H4490 m = wKI H m := (wKI_fr hW gm f4495 rfl)
      have k4508 : H4490 x 9 = H x 9 := (f4495 x 9 _ gx rfl)
      have k4509 : H4490 m 6 = H m 6 := (f4495 m 6 _ gm rfl)
      have k4510 : H4490 x 11 = H x 11 := (f4495 x 11 _ gx rfl)
      have k4511 : H4490 m 13 = H m 13 := (f4495 m 13 _ gm rfl)
      have k4512 : H4490 x 8 = H x 8 := (f4495 x 8 _ gx rfl)
      have k4513 : H4490 m 3 = H m 3 := (f4495 m 3 _ gm rfl)
      rw [show H4490 0 ((i + 1).toNat) = H 0 ((i + 1).toNat) by omega]
      have h4514 : RB T H4490 m e8 d8 := (RB_fr hW gm f4495 rfl hrb8)
      have h4515 : KNN T H4490 m e8 d8 := (KNN_fr hW gm f4495 rfl hknn8)
      refine wl_of hX hb cL_1102 (xc_V (pc' := 1105) (r := m) (as := [vI (H 0 ((i + 1).toNat)), vI 0]) (st := []) (lm_11_142) rfl rfl (Nat.le_of_ble_eq_true rfl) w4494 gm sh_42 (by decide) rfl (by decide) (u_263 (e := e8) (d := d8) w4494 gm ⟨by omega, by omega⟩ ⟨by decide, by decide⟩ (by omega) (by assumption) (by assumption) (by assumption) (by assumption) h4514 h4515) (fun R4516 T4517 H4518 p4519 => ?_))
      obtain ⟨e4520, w4522, f4523, z4524, e4521, b4525, p4526⟩ := p4519
      subst e4520
      subst e4521
      obtain ⟨a4527, a4528⟩ := p4526
      show WL _ _ _ _ 1105 [(4, vI i), (3, .ref o), (2, .ref m), (1, .ref x), (0, .ref 0)] [vI z4524] _ H4518
      refine wl_of hX hb cL_1105 (rw_pop (pc' := 1106) rfl rfl ?_)
      refine wl_of hX hb cL_1106 (rw_goto (p1 := 1653) (by decide) ?_)
      have k4529 : H4518 x 9 = H4490 x 9 := (f4523 x 9 _ gx rfl)
      have k4530 : H4518 m 6 = H4490 m 6 := (f4523 m 6 _ gm rfl)
      have k4531 : H4518 x 11 = H4490 x 11 := (f4523 x 11 _ gx rfl)
      have k4532 : H4518 m 13 = H4490 m 13 := (f4523 m 13 _ gm rfl)
      have k4533 : H4518 x 8 = H4490 x 8 := (f4523 x 8 _ gx rfl)
      have k4534 : H4518 m 3 = H4490 m 3 := (f4523 m 3 _ gm rfl)
      have k4535 : H4518 x 0 = H x 0 := ((f4523 x 0 _ gx rfl).trans (f4495 x 0 _ gx rfl))
      have q4536 : H4518 x 0 = (tc : Int) := k4535.trans e0
      have k4537 : H4518 m 5 = H m 5 := ((f4523 m 5 _ gm rfl).trans (f4495 m 5 _ gm rfl))
      have q4538 : H4518 m 5 = (tm : Int) := k4537.trans em
      have k4539 : H4518 x 6 = H x 6 := ((f4523 x 6 _ gx rfl).trans (f4495 x 6 _ gx rfl))
      have q4540 : H4518 x 6 = (cu : Int) := k4539.trans ecu
      have k4541 : H4518 x 7 = H x 7 := ((f4523 x 7 _ gx rfl).trans (f4495 x 7 _ gx rfl))
      have q4542 : H4518 x 7 = (dr : Int) := k4541.trans edr
      have h4543 : CEN T H4518 ce8 e8 d8 := (CEN_fr w4494 gce8 f4523 rfl p4498)
      have h4544 : TP T H4518 tc B := (TP_fr w4494 gtc f4523 rfl (TP_fr hW gtc f4495 rfl htc))
      have h4545 : TM T H4518 tm B := (TM_fr w4494 gtm f4523 rfl (TM_fr hW gtm f4495 rfl htm))
      have h4546 : DD T H4518 cu  := (DD_fr w4494 gcu f4523 rfl (DD_fr hW gcu f4495 rfl hcu))
      have h4547 : DD T H4518 dr  := (DD_fr w4494 gdr f4523 rfl (DD_fr hW gdr f4495 rfl hdr))
      have h4548 : DE T H4518 cu  := (DE_fr w4494 gcu f4523 rfl (DE_fr hW gcu f4495 rfl hdec))
      have h4549 : DE T H4518 dr  := (DE_fr w4494 gdr f4523 rfl (DE_fr hW gdr f4495 rfl hded))
      have h4550 : SP T H4518 x C8 := (SP_fr w4494 gx f4523 rfl (SP_fr hW gx f4495 rfl hsp))
      have h4551 : CU T H4518 cu e8 d8 n8 := (CU_fr w4494 gcu f4523 rfl (CU_fr hW gcu f4495 rfl hcu8))
      have h4552 : CY T H4518 cu (d8 0 3) g8 (H cu 17) := (CY_fr w4494 gcu f4523 rfl (CY_fr hW gcu f4495 rfl h4483))
      have k4553 : H4518 x 3 = H x 3 := ((f4523 x 3 _ gx rfl).trans (f4495 x 3 _ gx rfl))
      have q4554 : H4518 x 3 = (ce8 : Int) := k4553.trans ece8
      have h4555 : HDR T H4518 ce8  := (HDR_fr w4494 gce8 f4523 rfl (HDR_fr hW gce8 f4495 rfl hhdr8))
      have h4556 : RY T H4518 m (d8 0 3) g8 (H m 32) := (RY_fr w4494 gm f4523 rfl (RY_fr hW gm f4495 rfl h4484))
      have h4557 : RB T H4518 m e8 d8 := (RB_fr w4494 gm f4523 rfl h4514)
      exact WL.loc hX (by simp) (next T H4518 ⟨⟨w4522, g0, gx, gm, go, by omega, by omega⟩, ⟨_, tc, tm, cu, dr, _, _, _, _, _, ce8, q4536, gtc, h4544, q4538, gtm, h4545, q4540, gcu, q4542, gdr, h4546, h4547, h4548, h4549, h4550, hC1, hC2, h4551, h4557, (h4552).1, (h4556).1, hE, hZ, (by omega), (by assumption), (by omega), (by first | assumption | exact SG_0), q4554, gce8, h4543, h4555, a4528, gm⟩, by omega, by omega⟩ (by omega) (by omega))
    · refine wl_of hX hb cL_1097 (rw_iconst (pc' := 1098) rfl ?_)
      refine wl_of hX hb cL_1098 (rw_goto (p1 := 1102) (by decide) ?_)
      have k4558 : wKI H4490 m = wKI H m := (wKI_fr hW gm f4495 rfl)
      have k4559 : H4490 x 9 = H x 9 := (f4495 x 9 _ gx rfl)
      have k4560 : H4490 m 6 = H m 6 := (f4495 m 6 _ gm rfl)
      have k4561 : H4490 x 11 = H x 11 := (f4495 x 11 _ gx rfl)
      have k4562 : H4490 m 13 = H m 13 := (f4495 m 13 _ gm rfl)
      have k4563 : H4490 x 8 = H x 8 := (f4495 x 8 _ gx rfl)
      have k4564 : H4490 m 3 = H m 3 := (f4495 m 3 _ gm rfl)
      rw [show H4490 0 ((i + 1).toNat) = H 0 ((i + 1).toNat) by omega]
      have h4565 : RB T H4490 m e8 d8 := (RB_fr hW gm f4495 rfl hrb8)
      have h4566 : KNN T H4490 m e8 d8 := (KNN_fr hW gm f4495 rfl hknn8)
      refine wl_of hX hb cL_1102 (xc_V (pc' := 1105) (r := m) (as := [vI (H 0 ((i + 1).toNat)), vI 1]) (st := []) (lm_11_142) rfl rfl (Nat.le_of_ble_eq_true rfl) w4494 gm sh_42 (by decide) rfl (by decide) (u_263 (e := e8) (d := d8) w4494 gm ⟨by omega, by omega⟩ ⟨by decide, by decide⟩ (by omega) (by assumption) (by assumption) (by assumption) (by assumption) h4565 h4566) (fun R4567 T4568 H4569 p4570 => ?_))
      obtain ⟨e4571, w4573, f4574, z4575, e4572, b4576, p4577⟩ := p4570
      subst e4571
      subst e4572
      obtain ⟨a4578, a4579⟩ := p4577
      show WL _ _ _ _ 1105 [(4, vI i), (3, .ref o), (2, .ref m), (1, .ref x), (0, .ref 0)] [vI z4575] _ H4569
      refine wl_of hX hb cL_1105 (rw_pop (pc' := 1106) rfl rfl ?_)
      refine wl_of hX hb cL_1106 (rw_goto (p1 := 1653) (by decide) ?_)
      have k4580 : H4569 x 9 = H4490 x 9 := (f4574 x 9 _ gx rfl)
      have k4581 : H4569 m 6 = H4490 m 6 := (f4574 m 6 _ gm rfl)
      have k4582 : H4569 x 11 = H4490 x 11 := (f4574 x 11 _ gx rfl)
      have k4583 : H4569 m 13 = H4490 m 13 := (f4574 m 13 _ gm rfl)
      have k4584 : H4569 x 8 = H4490 x 8 := (f4574 x 8 _ gx rfl)
      have k4585 : H4569 m 3 = H4490 m 3 := (f4574 m 3 _ gm rfl)
      have k4586 : H4569 x 0 = H x 0 := ((f4574 x 0 _ gx rfl).trans (f4495 x 0 _ gx rfl))
      have q4587 : H4569 x 0 = (tc : Int) := k4586.trans e0
      have k4588 : H4569 m 5 = H m 5 := ((f4574 m 5 _ gm rfl).trans (f4495 m 5 _ gm rfl))
      have q4589 : H4569 m 5 = (tm : Int) := k4588.trans em
      have k4590 : H4569 x 6 = H x 6 := ((f4574 x 6 _ gx rfl).trans (f4495 x 6 _ gx rfl))
      have q4591 : H4569 x 6 = (cu : Int) := k4590.trans ecu
      have k4592 : H4569 x 7 = H x 7 := ((f4574 x 7 _ gx rfl).trans (f4495 x 7 _ gx rfl))
      have q4593 : H4569 x 7 = (dr : Int) := k4592.trans edr
      have h4594 : CEN T H4569 ce8 e8 d8 := (CEN_fr w4494 gce8 f4574 rfl p4498)
      have h4595 : TP T H4569 tc B := (TP_fr w4494 gtc f4574 rfl (TP_fr hW gtc f4495 rfl htc))
      have h4596 : TM T H4569 tm B := (TM_fr w4494 gtm f4574 rfl (TM_fr hW gtm f4495 rfl htm))
      have h4597 : DD T H4569 cu  := (DD_fr w4494 gcu f4574 rfl (DD_fr hW gcu f4495 rfl hcu))
      have h4598 : DD T H4569 dr  := (DD_fr w4494 gdr f4574 rfl (DD_fr hW gdr f4495 rfl hdr))
      have h4599 : DE T H4569 cu  := (DE_fr w4494 gcu f4574 rfl (DE_fr hW gcu f4495 rfl hdec))
      have h4600 : DE T H4569 dr  := (DE_fr w4494 gdr f4574 rfl (DE_fr hW gdr f4495 rfl hded))
      have h4601 : SP T H4569 x C8 := (SP_fr w4494 gx f4574 rfl (SP_fr hW gx f4495 rfl hsp))
      have h4602 : CU T H4569 cu e8 d8 n8 := (CU_fr w4494 gcu f4574 rfl (CU_fr hW gcu f4495 rfl hcu8))
      have h4603 : CY T H4569 cu (d8 0 3) g8 (H cu 17) := (CY_fr w4494 gcu f4574 rfl (CY_fr hW gcu f4495 rfl h4483))
      have k4604 : H4569 x 3 = H x 3 := ((f4574 x 3 _ gx rfl).trans (f4495 x 3 _ gx rfl))
      have q4605 : H4569 x 3 = (ce8 : Int) := k4604.trans ece8
      have h4606 : HDR T H4569 ce8  := (HDR_fr w4494 gce8 f4574 rfl (HDR_fr hW gce8 f4495 rfl hhdr8))
      have h4607 : RY T H4569 m (d8 0 3) g8 (H m 32) := (RY_fr w4494 gm f4574 rfl (RY_fr hW gm f4495 rfl h4484))
      have h4608 : RB T H4569 m e8 d8 := (RB_fr w4494 gm f4574 rfl h4565)
      exact WL.loc hX (by simp) (next T H4569 ⟨⟨w4573, g0, gx, gm, go, by omega, by omega⟩, ⟨_, tc, tm, cu, dr, _, _, _, _, _, ce8, q4587, gtc, h4595, q4589, gtm, h4596, q4591, gcu, q4593, gdr, h4597, h4598, h4599, h4600, h4601, hC1, hC2, h4602, h4608, (h4603).1, (h4607).1, hE, hZ, (by omega), (by assumption), (by omega), (by first | assumption | exact SG_0), q4605, gce8, h4594, h4606, a4579, gm⟩, by omega, by omega⟩ (by omega) (by omega))
