/-! THE LAW, GONE ON WITH (own work) -/
set_option maxHeartbeats 4000000 in
theorem wl_c22 {kt : Nat → Option mc_E} {CB SB : Nat} {X : mc_S → Prop} {T : wq_T} {H : wq_H} {Len x m o : Nat} {i : Int} (hX : wlX kt CB SB X) (hb : T.2.1 ≤ CB ∧ T.2.2.1 ≤ SB) (hI : wlJ Len x m o T H) (hL : Len ≤ 3072) (hi : 0 ≤ i ∧ i + 6 ≤ Len) (hb2 : T.2.1 + 20 ≤ CB ∧ T.2.2.1 + 500 ≤ SB)  (next : ∀ T' H', wlJ Len x m o T' H' → T'.2.1 ≤ T.2.1 + 20 → T'.2.2.1 ≤ T.2.2.1 + 500 → WL kt CB SB X 1653 (wlL i x m o) [] T' H') : WL kt CB SB X 882 (wlL i x m o) [] T H := by
  obtain ⟨⟨hW, g0, gx, gm, go, hK, hr⟩, hXI, hY1, hY2⟩ := hI
  refine wl_of hX hb cL_882 (rw_aload_n (pc' := 883) (v := .ref x) rfl rfl rfl ?_)
  refine wl_of hX hb cL_883 (rw_aload_n (pc' := 884) (v := .ref 0) rfl rfl rfl ?_)
  refine wl_of hX hb cL_884 (rw_iload (pc' := 886) (z := i) rfl rfl ?_)
  refine wl_of hX hb cL_886 (rw_iconst (pc' := 887) rfl ?_)
  refine wl_of hX hb cL_887 (rw_iadd (pc' := 888) rfl ?_)
  refine wl_of hX hb cL_888 (xa_I (so := 0) (pc' := 889) (a := 0) hW g0 (wsh_s _) (by omega) (wty_s _ _) (by omega) (by omega) rfl (fun b4000 b4001 => ?_))
  refine wl_of hX hb cL_889 (rw_aload_n (pc' := 890) (v := .ref 0) rfl rfl rfl ?_)
  refine wl_of hX hb cL_890 (rw_iload (pc' := 892) (z := i) rfl rfl ?_)
  refine wl_of hX hb cL_892 (rw_iconst (pc' := 893) rfl ?_)
  refine wl_of hX hb cL_893 (rw_iadd (pc' := 894) rfl ?_)
  refine wl_of hX hb cL_894 (xa_I (so := 0) (pc' := 895) (a := 0) hW g0 (wsh_s _) (by omega) (wty_s _ _) (by omega) (by omega) rfl (fun b4002 b4003 => ?_))
  obtain ⟨B, tc, tm, cu, dr, C8, e8, d8, n8, g8, ce8, e0, gtc, htc, em, gtm, htm, ecu, gcu, edr, gdr, hcu, hdr, hdec, hded, hsp, hC1, hC2, hcu8, hrb8, hcg8, hmn8, hE, hZ, hn8, hXA, hV8, hSG, ece8, gce8, hcen8, hhdr8, hknn8, -⟩ := hXI
  have hN3 := RB_n3 hrb8
  have hE13 : ∀ h : Nat, h < 24 → 0 ≤ e8 13 h ∧ e8 13 h ≤ 100 := fun k hk => by
    obtain ⟨s, h1, h2, h3⟩ := hcu8.1.2.2.1
    exact ⟨(h3 k hk).1, (h3 k hk).2.1⟩
  have hXW := hXA.1
  have hXN := hXA.2
  have hE0 : e8 0 3 = d8 0 3 ∧ e8 0 0 = d8 0 0 := by
    have h := hE 0 (by decide)
    exact ⟨congrFun h 3, congrFun h 0⟩
  have u4004 := CU_k hcu8
  have h4005 : CY T H cu (d8 0 3) g8 (H cu 17) := ⟨hcg8, rfl⟩
  have h4006 : RY T H m (d8 0 3) g8 (H m 32) := ⟨hmn8, rfl⟩
  obtain ⟨t9, ht9⟩ : ∃ t : Int, t = H x 9 := ⟨_, rfl⟩
  obtain ⟨y9, hy9⟩ : ∃ y : Int, y = H 0 ((i + 2).toNat) := ⟨_, rfl⟩
  obtain ⟨r4007, q4008, g4009⟩ := hW.ref gx (t' := 6) (n := 13) (j := 2) (p := 0) (q := 0) rfl (by decide) rfl
  refine wl_of hX hb cL_895 (xc_V (pc' := 898) (r := x) (as := [vI (H 0 ((i + 1).toNat)), vI (H 0 ((i + 2).toNat))]) (st := []) (lm_11_114) rfl rfl (Nat.le_of_ble_eq_true rfl) hW gx sh_1 (by decide) rfl (by decide) (u_105 (e := e8) (d := d8) (n := n8) hW gx ⟨by omega, by omega⟩ ⟨by omega, by omega⟩ ecu gcu q4008 g4009 ece8 gce8 (by assumption) (by assumption) (by omega) (by omega) (by omega) (by omega) hcu8 hcen8 hhdr8) (fun R4010 T4011 H4012 p4013 => ?_))
  obtain ⟨e4014, w4016, f4017, z4018, e4015, b4019, p4020⟩ := p4013
  subst e4014
  subst e4015
  show WL _ _ _ _ 898 [(4, vI i), (3, .ref o), (2, .ref m), (1, .ref x), (0, .ref 0)] [vI z4018] _ H4012
  refine wl_of hX hb cL_898 (rw_pop (pc' := 899) rfl rfl ?_)
  refine wl_of hX hb cL_899 (rw_aload_n (pc' := 900) (v := .ref m) rfl rfl rfl ?_)
  refine wl_of hX hb cL_900 (rw_aload_n (pc' := 901) (v := .ref 0) rfl rfl rfl ?_)
  refine wl_of hX hb cL_901 (rw_iload (pc' := 903) (z := i) rfl rfl ?_)
  refine wl_of hX hb cL_903 (rw_iconst (pc' := 904) rfl ?_)
  refine wl_of hX hb cL_904 (rw_iadd (pc' := 905) rfl ?_)
  have k4024 : H4012 0 ((i + 1).toNat) = H 0 ((i + 1).toNat) := (f4017 0 ((i + 1).toNat) _ g0 (wmem_s rfl))
  refine wl_of hX hb cL_905 (xa_I (so := 0) (pc' := 906) (a := 0) w4016 g0 (wsh_s _) (by omega) (wty_s _ _) (by omega) (by omega) rfl (fun b4022 b4023 => ?_))
  refine wl_of hX hb cL_906 (rw_aload_n (pc' := 907) (v := .ref 0) rfl rfl rfl ?_)
  refine wl_of hX hb cL_907 (rw_iload (pc' := 909) (z := i) rfl rfl ?_)
  refine wl_of hX hb cL_909 (rw_iconst (pc' := 910) rfl ?_)
  refine wl_of hX hb cL_910 (rw_iadd (pc' := 911) rfl ?_)
  have k4027 : H4012 0 ((i + 2).toNat) = H 0 ((i + 2).toNat) := (f4017 0 ((i + 2).toNat) _ g0 (wmem_s rfl))
  refine wl_of hX hb cL_911 (xa_I (so := 0) (pc' := 912) (a := 0) w4016 g0 (wsh_s _) (by omega) (wty_s _ _) (by omega) (by omega) rfl (fun b4025 b4026 => ?_))
  have k4028 : wKI H4012 m = wKI H m := (wKI_fr hW gm f4017 rfl)
  have k4029 : H4012 x 9 = H x 9 := (f4017 x 9 _ gx rfl)
  have k4030 : H4012 m 6 = H m 6 := (f4017 m 6 _ gm rfl)
  have k4031 : H4012 x 11 = H x 11 := (f4017 x 11 _ gx rfl)
  have k4032 : H4012 m 13 = H m 13 := (f4017 m 13 _ gm rfl)
  have k4033 : H4012 x 8 = H x 8 := (f4017 x 8 _ gx rfl)
  have k4034 : H4012 m 3 = H m 3 := (f4017 m 3 _ gm rfl)
  rw [show H4012 0 ((i + 2).toNat) = H 0 ((i + 2).toNat) by omega]
  rw [show H4012 0 ((i + 1).toNat) = H 0 ((i + 1).toNat) by omega]
  have h4035 : RB T H4012 m e8 d8 := (RB_fr hW gm f4017 rfl hrb8)
  have h4036 : KNN T H4012 m e8 d8 := (KNN_fr hW gm f4017 rfl hknn8)
  refine wl_of hX hb cL_912 (xc_V (pc' := 915) (r := m) (as := [vI (H 0 ((i + 1).toNat)), vI (H 0 ((i + 2).toNat))]) (st := []) (lm_11_117) rfl rfl (Nat.le_of_ble_eq_true rfl) w4016 gm sh_42 (by decide) rfl (by decide) (u_255 (e := e8) (d := d8) w4016 gm ⟨by omega, by omega⟩ ⟨by omega, by omega⟩ (by omega) (by assumption) (by assumption) (by assumption) (by assumption) h4035 h4036) (fun R4037 T4038 H4039 p4040 => ?_))
  obtain ⟨e4041, w4043, f4044, z4045, e4042, b4046, p4047⟩ := p4040
  subst e4041
  subst e4042
  obtain ⟨a4048, a4049⟩ := p4047
  show WL _ _ _ _ 915 [(4, vI i), (3, .ref o), (2, .ref m), (1, .ref x), (0, .ref 0)] [vI z4045] _ H4039
  refine wl_of hX hb cL_915 (rw_pop (pc' := 916) rfl rfl ?_)
  refine wl_of hX hb cL_916 (rw_goto (p1 := 1653) (by decide) ?_)
  have k4050 : H4039 x 9 = H4012 x 9 := (f4044 x 9 _ gx rfl)
  have k4051 : H4039 m 6 = H4012 m 6 := (f4044 m 6 _ gm rfl)
  have k4052 : H4039 x 11 = H4012 x 11 := (f4044 x 11 _ gx rfl)
  have k4053 : H4039 m 13 = H4012 m 13 := (f4044 m 13 _ gm rfl)
  have k4054 : H4039 x 8 = H4012 x 8 := (f4044 x 8 _ gx rfl)
  have k4055 : H4039 m 3 = H4012 m 3 := (f4044 m 3 _ gm rfl)
  have k4056 : H4039 x 0 = H x 0 := ((f4044 x 0 _ gx rfl).trans (f4017 x 0 _ gx rfl))
  have q4057 : H4039 x 0 = (tc : Int) := k4056.trans e0
  have k4058 : H4039 m 5 = H m 5 := ((f4044 m 5 _ gm rfl).trans (f4017 m 5 _ gm rfl))
  have q4059 : H4039 m 5 = (tm : Int) := k4058.trans em
  have k4060 : H4039 x 6 = H x 6 := ((f4044 x 6 _ gx rfl).trans (f4017 x 6 _ gx rfl))
  have q4061 : H4039 x 6 = (cu : Int) := k4060.trans ecu
  have k4062 : H4039 x 7 = H x 7 := ((f4044 x 7 _ gx rfl).trans (f4017 x 7 _ gx rfl))
  have q4063 : H4039 x 7 = (dr : Int) := k4062.trans edr
  have h4064 : CEN T H4039 ce8 e8 d8 := (CEN_fr w4016 gce8 f4044 rfl p4020)
  have h4065 : TP T H4039 tc B := (TP_fr w4016 gtc f4044 rfl (TP_fr hW gtc f4017 rfl htc))
  have h4066 : TM T H4039 tm B := (TM_fr w4016 gtm f4044 rfl (TM_fr hW gtm f4017 rfl htm))
  have h4067 : DD T H4039 cu  := (DD_fr w4016 gcu f4044 rfl (DD_fr hW gcu f4017 rfl hcu))
  have h4068 : DD T H4039 dr  := (DD_fr w4016 gdr f4044 rfl (DD_fr hW gdr f4017 rfl hdr))
  have h4069 : DE T H4039 cu  := (DE_fr w4016 gcu f4044 rfl (DE_fr hW gcu f4017 rfl hdec))
  have h4070 : DE T H4039 dr  := (DE_fr w4016 gdr f4044 rfl (DE_fr hW gdr f4017 rfl hded))
  have h4071 : SP T H4039 x C8 := (SP_fr w4016 gx f4044 rfl (SP_fr hW gx f4017 rfl hsp))
  have h4072 : CU T H4039 cu e8 d8 n8 := (CU_fr w4016 gcu f4044 rfl (CU_fr hW gcu f4017 rfl hcu8))
  have h4073 : CY T H4039 cu (d8 0 3) g8 (H cu 17) := (CY_fr w4016 gcu f4044 rfl (CY_fr hW gcu f4017 rfl h4005))
  have k4074 : H4039 x 3 = H x 3 := ((f4044 x 3 _ gx rfl).trans (f4017 x 3 _ gx rfl))
  have q4075 : H4039 x 3 = (ce8 : Int) := k4074.trans ece8
  have h4076 : HDR T H4039 ce8  := (HDR_fr w4016 gce8 f4044 rfl (HDR_fr hW gce8 f4017 rfl hhdr8))
  have h4077 : RY T H4039 m (d8 0 3) g8 (H m 32) := (RY_fr w4016 gm f4044 rfl (RY_fr hW gm f4017 rfl h4006))
  have h4078 : RB T H4039 m e8 d8 := (RB_fr w4016 gm f4044 rfl h4035)
  exact WL.loc hX (by simp) (next T H4039 ⟨⟨w4043, g0, gx, gm, go, by omega, by omega⟩, ⟨_, tc, tm, cu, dr, _, _, _, _, _, ce8, q4057, gtc, h4065, q4059, gtm, h4066, q4061, gcu, q4063, gdr, h4067, h4068, h4069, h4070, h4071, hC1, hC2, h4072, h4078, (h4073).1, (h4077).1, hE, hZ, (by omega), (by assumption), (by omega), (by first | assumption | exact SG_0), q4075, gce8, h4064, h4076, a4049, gm⟩, by omega, by omega⟩ (by omega) (by omega))
set_option maxHeartbeats 4000000 in
theorem wl_c23 {kt : Nat → Option mc_E} {CB SB : Nat} {X : mc_S → Prop} {T : wq_T} {H : wq_H} {Len x m o : Nat} {i : Int} (hX : wlX kt CB SB X) (hb : T.2.1 ≤ CB ∧ T.2.2.1 ≤ SB) (hI : wlJ Len x m o T H) (hL : Len ≤ 3072) (hi : 0 ≤ i ∧ i + 6 ≤ Len) (hb2 : T.2.1 + 20 ≤ CB ∧ T.2.2.1 + 500 ≤ SB)  (next : ∀ T' H', wlJ Len x m o T' H' → T'.2.1 ≤ T.2.1 + 20 → T'.2.2.1 ≤ T.2.2.1 + 500 → WL kt CB SB X 1653 (wlL i x m o) [] T' H') : WL kt CB SB X 919 (wlL i x m o) [] T H := by
  obtain ⟨⟨hW, g0, gx, gm, go, hK, hr⟩, hXI, hY1, hY2⟩ := hI
  refine wl_of hX hb cL_919 (rw_aload_n (pc' := 920) (v := .ref x) rfl rfl rfl ?_)
  refine wl_of hX hb cL_920 (rw_aload_n (pc' := 921) (v := .ref 0) rfl rfl rfl ?_)
  refine wl_of hX hb cL_921 (rw_iload (pc' := 923) (z := i) rfl rfl ?_)
  refine wl_of hX hb cL_923 (rw_iconst (pc' := 924) rfl ?_)
  refine wl_of hX hb cL_924 (rw_iadd (pc' := 925) rfl ?_)
  refine wl_of hX hb cL_925 (xa_I (so := 0) (pc' := 926) (a := 0) hW g0 (wsh_s _) (by omega) (wty_s _ _) (by omega) (by omega) rfl (fun b4079 b4080 => ?_))
  obtain ⟨B, tc, tm, cu, dr, C8, e8, d8, n8, g8, ce8, e0, gtc, htc, em, gtm, htm, ecu, gcu, edr, gdr, hcu, hdr, hdec, hded, hsp, hC1, hC2, hcu8, hrb8, hcg8, hmn8, hE, hZ, hn8, hXA, hV8, hSG, ece8, gce8, hcen8, hhdr8, hknn8, -⟩ := hXI
  have hN3 := RB_n3 hrb8
  have hE13 : ∀ h : Nat, h < 24 → 0 ≤ e8 13 h ∧ e8 13 h ≤ 100 := fun k hk => by
    obtain ⟨s, h1, h2, h3⟩ := hcu8.1.2.2.1
    exact ⟨(h3 k hk).1, (h3 k hk).2.1⟩
  have hXW := hXA.1
  have hXN := hXA.2
  have hE0 : e8 0 3 = d8 0 3 ∧ e8 0 0 = d8 0 0 := by
    have h := hE 0 (by decide)
    exact ⟨congrFun h 3, congrFun h 0⟩
  have u4081 := CU_k hcu8
  have h4082 : CY T H cu (d8 0 3) g8 (H cu 17) := ⟨hcg8, rfl⟩
  have h4083 : RY T H m (d8 0 3) g8 (H m 32) := ⟨hmn8, rfl⟩
  obtain ⟨t9, ht9⟩ : ∃ t : Int, t = H x 9 := ⟨_, rfl⟩
  obtain ⟨y9, hy9⟩ : ∃ y : Int, y = H 0 ((i + 1).toNat) := ⟨_, rfl⟩
  obtain ⟨r4084, q4085, g4086⟩ := hW.ref gx (t' := 6) (n := 13) (j := 2) (p := 0) (q := 0) rfl (by decide) rfl
  refine wl_of hX hb cL_926 (xc_V (pc' := 929) (r := x) (as := [vI (H 0 ((i + 1).toNat))]) (st := []) (lm_11_118) rfl rfl (Nat.le_of_ble_eq_true rfl) hW gx sh_1 (by decide) rfl (by decide) (u_107 (e := e8) (d := d8) (n := n8) hW gx ⟨by omega, by omega⟩ ecu gcu q4085 g4086 ece8 gce8 (by assumption) (by assumption) (by omega) (by omega) (by omega) (by omega) hcu8 hcen8 hhdr8) (fun R4087 T4088 H4089 p4090 => ?_))
  obtain ⟨e4091, w4093, f4094, z4095, e4092, b4096, p4097⟩ := p4090
  subst e4091
  subst e4092
  show WL _ _ _ _ 929 [(4, vI i), (3, .ref o), (2, .ref m), (1, .ref x), (0, .ref 0)] [vI z4095] _ H4089
  refine wl_of hX hb cL_929 (rw_pop (pc' := 930) rfl rfl ?_)
  refine wl_of hX hb cL_930 (rw_aload_n (pc' := 931) (v := .ref m) rfl rfl rfl ?_)
  refine wl_of hX hb cL_931 (rw_aload_n (pc' := 932) (v := .ref 0) rfl rfl rfl ?_)
  refine wl_of hX hb cL_932 (rw_iload (pc' := 934) (z := i) rfl rfl ?_)
  refine wl_of hX hb cL_934 (rw_iconst (pc' := 935) rfl ?_)
  refine wl_of hX hb cL_935 (rw_iadd (pc' := 936) rfl ?_)
  have k4101 : H4089 0 ((i + 1).toNat) = H 0 ((i + 1).toNat) := (f4094 0 ((i + 1).toNat) _ g0 (wmem_s rfl))
  refine wl_of hX hb cL_936 (xa_I (so := 0) (pc' := 937) (a := 0) w4093 g0 (wsh_s _) (by omega) (wty_s _ _) (by omega) (by omega) rfl (fun b4099 b4100 => ?_))
  have k4102 : wKI H4089 m = wKI H m := (wKI_fr hW gm f4094 rfl)
  have k4103 : H4089 x 9 = H x 9 := (f4094 x 9 _ gx rfl)
  have k4104 : H4089 m 6 = H m 6 := (f4094 m 6 _ gm rfl)
  have k4105 : H4089 x 11 = H x 11 := (f4094 x 11 _ gx rfl)
  have k4106 : H4089 m 13 = H m 13 := (f4094 m 13 _ gm rfl)
  have k4107 : H4089 x 8 = H x 8 := (f4094 x 8 _ gx rfl)
  have k4108 : H4089 m 3 = H m 3 := (f4094 m 3 _ gm rfl)
  rw [show H4089 0 ((i + 1).toNat) = H 0 ((i + 1).toNat) by omega]
  have h4109 : RB T H4089 m e8 d8 := (RB_fr hW gm f4094 rfl hrb8)
  have h4110 : KNN T H4089 m e8 d8 := (KNN_fr hW gm f4094 rfl hknn8)
  refine wl_of hX hb cL_937 (xc_V (pc' := 940) (r := m) (as := [vI (H 0 ((i + 1).toNat))]) (st := []) (lm_11_121) rfl rfl (Nat.le_of_ble_eq_true rfl) w4093 gm sh_42 (by decide) rfl (by decide) (u_256 (e := e8) (d := d8) w4093 gm ⟨by omega, by omega⟩ (by omega) (by assumption) (by assumption) (by assumption) (by assumption) h4109 h4110) (fun R4111 T4112 H4113 p4114 => ?_))
  obtain ⟨e4115, w4117, f4118, z4119, e4116, b4120, p4121⟩ := p4114
  subst e4115
  subst e4116
  obtain ⟨a4122, a4123⟩ := p4121
  show WL _ _ _ _ 940 [(4, vI i), (3, .ref o), (2, .ref m), (1, .ref x), (0, .ref 0)] [vI z4119] _ H4113
  refine wl_of hX hb cL_940 (rw_pop (pc' := 941) rfl rfl ?_)
  refine wl_of hX hb cL_941 (rw_goto (p1 := 1653) (by decide) ?_)
  have k4124 : H4113 x 9 = H4089 x 9 := (f4118 x 9 _ gx rfl)
  have k4125 : H4113 m 6 = H4089 m 6 := (f4118 m 6 _ gm rfl)
  have k4126 : H4113 x 11 = H4089 x 11 := (f4118 x 11 _ gx rfl)
  have k4127 : H4113 m 13 = H4089 m 13 := (f4118 m 13 _ gm rfl)
  have k4128 : H4113 x 8 = H4089 x 8 := (f4118 x 8 _ gx rfl)
  have k4129 : H4113 m 3 = H4089 m 3 := (f4118 m 3 _ gm rfl)
  have k4130 : H4113 x 0 = H x 0 := ((f4118 x 0 _ gx rfl).trans (f4094 x 0 _ gx rfl))
  have q4131 : H4113 x 0 = (tc : Int) := k4130.trans e0
  have k4132 : H4113 m 5 = H m 5 := ((f4118 m 5 _ gm rfl).trans (f4094 m 5 _ gm rfl))
  have q4133 : H4113 m 5 = (tm : Int) := k4132.trans em
  have k4134 : H4113 x 6 = H x 6 := ((f4118 x 6 _ gx rfl).trans (f4094 x 6 _ gx rfl))
  have q4135 : H4113 x 6 = (cu : Int) := k4134.trans ecu
  have k4136 : H4113 x 7 = H x 7 := ((f4118 x 7 _ gx rfl).trans (f4094 x 7 _ gx rfl))
  have q4137 : H4113 x 7 = (dr : Int) := k4136.trans edr
  have h4138 : CEN T H4113 ce8 e8 d8 := (CEN_fr w4093 gce8 f4118 rfl p4097)
  have h4139 : TP T H4113 tc B := (TP_fr w4093 gtc f4118 rfl (TP_fr hW gtc f4094 rfl htc))
  have h4140 : TM T H4113 tm B := (TM_fr w4093 gtm f4118 rfl (TM_fr hW gtm f4094 rfl htm))
  have h4141 : DD T H4113 cu  := (DD_fr w4093 gcu f4118 rfl (DD_fr hW gcu f4094 rfl hcu))
  have h4142 : DD T H4113 dr  := (DD_fr w4093 gdr f4118 rfl (DD_fr hW gdr f4094 rfl hdr))
  have h4143 : DE T H4113 cu  := (DE_fr w4093 gcu f4118 rfl (DE_fr hW gcu f4094 rfl hdec))
  have h4144 : DE T H4113 dr  := (DE_fr w4093 gdr f4118 rfl (DE_fr hW gdr f4094 rfl hded))
  have h4145 : SP T H4113 x C8 := (SP_fr w4093 gx f4118 rfl (SP_fr hW gx f4094 rfl hsp))
  have h4146 : CU T H4113 cu e8 d8 n8 := (CU_fr w4093 gcu f4118 rfl (CU_fr hW gcu f4094 rfl hcu8))
  have h4147 : CY T H4113 cu (d8 0 3) g8 (H cu 17) := (CY_fr w4093 gcu f4118 rfl (CY_fr hW gcu f4094 rfl h4082))
  have k4148 : H4113 x 3 = H x 3 := ((f4118 x 3 _ gx rfl).trans (f4094 x 3 _ gx rfl))
  have q4149 : H4113 x 3 = (ce8 : Int) := k4148.trans ece8
  have h4150 : HDR T H4113 ce8  := (HDR_fr w4093 gce8 f4118 rfl (HDR_fr hW gce8 f4094 rfl hhdr8))
  have h4151 : RY T H4113 m (d8 0 3) g8 (H m 32) := (RY_fr w4093 gm f4118 rfl (RY_fr hW gm f4094 rfl h4083))
  have h4152 : RB T H4113 m e8 d8 := (RB_fr w4093 gm f4118 rfl h4109)
  exact WL.loc hX (by simp) (next T H4113 ⟨⟨w4117, g0, gx, gm, go, by omega, by omega⟩, ⟨_, tc, tm, cu, dr, _, _, _, _, _, ce8, q4131, gtc, h4139, q4133, gtm, h4140, q4135, gcu, q4137, gdr, h4141, h4142, h4143, h4144, h4145, hC1, hC2, h4146, h4152, (h4147).1, (h4151).1, hE, hZ, (by omega), (by assumption), (by omega), (by first | assumption | exact SG_0), q4149, gce8, h4138, h4150, a4123, gm⟩, by omega, by omega⟩ (by omega) (by omega))
set_option maxHeartbeats 4000000 in
theorem wl_c24 {kt : Nat → Option mc_E} {CB SB : Nat} {X : mc_S → Prop} {T : wq_T} {H : wq_H} {Len x m o : Nat} {i : Int} (hX : wlX kt CB SB X) (hb : T.2.1 ≤ CB ∧ T.2.2.1 ≤ SB) (hI : wlJ Len x m o T H) (hL : Len ≤ 3072) (hi : 0 ≤ i ∧ i + 6 ≤ Len) (hb2 : T.2.1 + 20 ≤ CB ∧ T.2.2.1 + 500 ≤ SB)  (next : ∀ T' H', wlJ Len x m o T' H' → T'.2.1 ≤ T.2.1 + 20 → T'.2.2.1 ≤ T.2.2.1 + 500 → WL kt CB SB X 1653 (wlL i x m o) [] T' H') : WL kt CB SB X 944 (wlL i x m o) [] T H := by
  obtain ⟨⟨hW, g0, gx, gm, go, hK, hr⟩, hXI, hY1, hY2⟩ := hI
  refine wl_of hX hb cL_944 (rw_aload_n (pc' := 945) (v := .ref x) rfl rfl rfl ?_)
  obtain ⟨B, tc, tm, cu, dr, C8, e8, d8, n8, g8, ce8, e0, gtc, htc, em, gtm, htm, ecu, gcu, edr, gdr, hcu, hdr, hdec, hded, hsp, hC1, hC2, hcu8, hrb8, hcg8, hmn8, hE, hZ, hn8, hXA, hV8, hSG, ece8, gce8, hcen8, hhdr8, hknn8, -⟩ := hXI
  have hN3 := RB_n3 hrb8
  have hE13 : ∀ h : Nat, h < 24 → 0 ≤ e8 13 h ∧ e8 13 h ≤ 100 := fun k hk => by
    obtain ⟨s, h1, h2, h3⟩ := hcu8.1.2.2.1
    exact ⟨(h3 k hk).1, (h3 k hk).2.1⟩
  have hXW := hXA.1
  have hXN := hXA.2
  have hE0 : e8 0 3 = d8 0 3 ∧ e8 0 0 = d8 0 0 := by
    have h := hE 0 (by decide)
    exact ⟨congrFun h 3, congrFun h 0⟩
  have u4153 := CU_k hcu8
  have h4154 : CY T H cu (d8 0 3) g8 (H cu 17) := ⟨hcg8, rfl⟩
  have h4155 : RY T H m (d8 0 3) g8 (H m 32) := ⟨hmn8, rfl⟩
  obtain ⟨t9, ht9⟩ : ∃ t : Int, t = H x 9 := ⟨_, rfl⟩
  obtain ⟨r4156, q4157, g4158⟩ := hW.ref gx (t' := 6) (n := 13) (j := 2) (p := 0) (q := 0) rfl (by decide) rfl
  refine wl_of hX hb cL_945 (xc_V (pc' := 948) (r := x) (as := []) (st := []) (lm_11_122) rfl rfl (Nat.le_of_ble_eq_true rfl) hW gx sh_1 (by decide) rfl (by decide) (u_108 (e := e8) (d := d8) (n := n8) hW gx ecu gcu q4157 g4158 ece8 gce8 (by assumption) (by assumption) (by omega) (by omega) (by omega) (by omega) hcu8 hcen8 hhdr8) (fun R4159 T4160 H4161 p4162 => ?_))
  obtain ⟨e4163, w4165, f4166, z4167, e4164, b4168, p4169⟩ := p4162
  subst e4163
  subst e4164
  show WL _ _ _ _ 948 [(4, vI i), (3, .ref o), (2, .ref m), (1, .ref x), (0, .ref 0)] [vL z4167] _ H4161
  refine wl_of hX hb cL_948 (rw_pop2 (pc' := 949) rfl rfl ?_)
  refine wl_of hX hb cL_949 (rw_aload_n (pc' := 950) (v := .ref m) rfl rfl rfl ?_)
  have k4171 : wKI H4161 m = wKI H m := (wKI_fr hW gm f4166 rfl)
  have k4172 : H4161 x 9 = H x 9 := (f4166 x 9 _ gx rfl)
  have k4173 : H4161 m 6 = H m 6 := (f4166 m 6 _ gm rfl)
  have k4174 : H4161 x 11 = H x 11 := (f4166 x 11 _ gx rfl)
  have k4175 : H4161 m 13 = H m 13 := (f4166 m 13 _ gm rfl)
  have k4176 : H4161 x 8 = H x 8 := (f4166 x 8 _ gx rfl)
  have k4177 : H4161 m 3 = H m 3 := (f4166 m 3 _ gm rfl)
  have h4178 : RB T H4161 m e8 d8 := (RB_fr hW gm f4166 rfl hrb8)
  have h4179 : KNN T H4161 m e8 d8 := (KNN_fr hW gm f4166 rfl hknn8)
  refine wl_of hX hb cL_950 (xc_V (pc' := 953) (r := m) (as := []) (st := []) (lm_11_125) rfl rfl (Nat.le_of_ble_eq_true rfl) w4165 gm sh_42 (by decide) rfl (by decide) (u_258 (e := e8) (d := d8) w4165 gm (by omega) (by assumption) (by assumption) (by assumption) (by assumption) h4178 h4179) (fun R4180 T4181 H4182 p4183 => ?_))
  obtain ⟨e4184, w4186, f4187, z4188, e4185, b4189, p4190⟩ := p4183
  subst e4184
  subst e4185
  obtain ⟨a4191, a4192⟩ := p4190
  show WL _ _ _ _ 953 [(4, vI i), (3, .ref o), (2, .ref m), (1, .ref x), (0, .ref 0)] [vL z4188] _ H4182
  refine wl_of hX hb cL_953 (rw_pop2 (pc' := 954) rfl rfl ?_)
  refine wl_of hX hb cL_954 (rw_goto (p1 := 1653) (by decide) ?_)
  have k4193 : H4182 x 9 = H4161 x 9 := (f4187 x 9 _ gx rfl)
  have k4194 : H4182 m 6 = H4161 m 6 := (f4187 m 6 _ gm rfl)
  have k4195 : H4182 x 11 = H4161 x 11 := (f4187 x 11 _ gx rfl)
  have k4196 : H4182 m 13 = H4161 m 13 := (f4187 m 13 _ gm rfl)
  have k4197 : H4182 x 8 = H4161 x 8 := (f4187 x 8 _ gx rfl)
  have k4198 : H4182 m 3 = H4161 m 3 := (f4187 m 3 _ gm rfl)
  have k4199 : H4182 x 0 = H x 0 := ((f4187 x 0 _ gx rfl).trans (f4166 x 0 _ gx rfl))
  have q4200 : H4182 x 0 = (tc : Int) := k4199.trans e0
  have k4201 : H4182 m 5 = H m 5 := ((f4187 m 5 _ gm rfl).trans (f4166 m 5 _ gm rfl))
  have q4202 : H4182 m 5 = (tm : Int) := k4201.trans em
  have k4203 : H4182 x 6 = H x 6 := ((f4187 x 6 _ gx rfl).trans (f4166 x 6 _ gx rfl))
  have q4204 : H4182 x 6 = (cu : Int) := k4203.trans ecu
  have k4205 : H4182 x 7 = H x 7 := ((f4187 x 7 _ gx rfl).trans (f4166 x 7 _ gx rfl))
  have q4206 : H4182 x 7 = (dr : Int) := k4205.trans edr
  have h4207 : CEN T H4182 ce8 e8 d8 := (CEN_fr w4165 gce8 f4187 rfl p4169)
  have h4208 : TP T H4182 tc B := (TP_fr w4165 gtc f4187 rfl (TP_fr hW gtc f4166 rfl htc))
  have h4209 : TM T H4182 tm B := (TM_fr w4165 gtm f4187 rfl (TM_fr hW gtm f4166 rfl htm))
  have h4210 : DD T H4182 cu  := (DD_fr w4165 gcu f4187 rfl (DD_fr hW gcu f4166 rfl hcu))
  have h4211 : DD T H4182 dr  := (DD_fr w4165 gdr f4187 rfl (DD_fr hW gdr f4166 rfl hdr))
  have h4212 : DE T H4182 cu  := (DE_fr w4165 gcu f4187 rfl (DE_fr hW gcu f4166 rfl hdec))
  have h4213 : DE T H4182 dr  := (DE_fr w4165 gdr f4187 rfl (DE_fr hW gdr f4166 rfl hded))
  have h4214 : SP T H4182 x C8 := (SP_fr w4165 gx f4187 rfl (SP_fr hW gx f4166 rfl hsp))
  have h4215 : CU T H4182 cu e8 d8 n8 := (CU_fr w4165 gcu f4187 rfl (CU_fr hW gcu f4166 rfl hcu8))
  have h4216 : CY T H4182 cu (d8 0 3) g8 (H cu 17) := (CY_fr w4165 gcu f4187 rfl (CY_fr hW gcu f4166 rfl h4154))
  have k4217 : H4182 x 3 = H x 3 := ((f4187 x 3 _ gx rfl).trans (f4166 x 3 _ gx rfl))
  have q4218 : H4182 x 3 = (ce8 : Int) := k4217.trans ece8
  have h4219 : HDR T H4182 ce8  := (HDR_fr w4165 gce8 f4187 rfl (HDR_fr hW gce8 f4166 rfl hhdr8))
  have h4220 : RY T H4182 m (d8 0 3) g8 (H m 32) := (RY_fr w4165 gm f4187 rfl (RY_fr hW gm f4166 rfl h4155))
  have h4221 : RB T H4182 m e8 d8 := (RB_fr w4165 gm f4187 rfl h4178)
  exact WL.loc hX (by simp) (next T H4182 ⟨⟨w4186, g0, gx, gm, go, by omega, by omega⟩, ⟨_, tc, tm, cu, dr, _, _, _, _, _, ce8, q4200, gtc, h4208, q4202, gtm, h4209, q4204, gcu, q4206, gdr, h4210, h4211, h4212, h4213, h4214, hC1, hC2, h4215, h4221, (h4216).1, (h4220).1, hE, hZ, (by omega), (by assumption), (by omega), (by first | assumption | exact SG_0), q4218, gce8, h4207, h4219, a4192, gm⟩, by omega, by omega⟩ (by omega) (by omega))
set_option maxHeartbeats 4000000 in
theorem wl_c25 {kt : Nat → Option mc_E} {CB SB : Nat} {X : mc_S → Prop} {T : wq_T} {H : wq_H} {Len x m o : Nat} {i : Int} (hX : wlX kt CB SB X) (hb : T.2.1 ≤ CB ∧ T.2.2.1 ≤ SB) (hI : wlJ Len x m o T H) (hL : Len ≤ 3072) (hi : 0 ≤ i ∧ i + 6 ≤ Len) (hb2 : T.2.1 + 20 ≤ CB ∧ T.2.2.1 + 500 ≤ SB)  (next : ∀ T' H', wlJ Len x m o T' H' → T'.2.1 ≤ T.2.1 + 20 → T'.2.2.1 ≤ T.2.2.1 + 500 → WL kt CB SB X 1653 (wlL i x m o) [] T' H') : WL kt CB SB X 957 (wlL i x m o) [] T H := by
  obtain ⟨⟨hW, g0, gx, gm, go, hK, hr⟩, hXI, hY1, hY2⟩ := hI
  refine wl_of hX hb cL_957 (rw_aload_n (pc' := 958) (v := .ref x) rfl rfl rfl ?_)
  refine wl_of hX hb cL_958 (rw_aload_n (pc' := 959) (v := .ref 0) rfl rfl rfl ?_)
  refine wl_of hX hb cL_959 (rw_iload (pc' := 961) (z := i) rfl rfl ?_)
  refine wl_of hX hb cL_961 (rw_iconst (pc' := 962) rfl ?_)
  refine wl_of hX hb cL_962 (rw_iadd (pc' := 963) rfl ?_)
  refine wl_of hX hb cL_963 (xa_I (so := 0) (pc' := 964) (a := 0) hW g0 (wsh_s _) (by omega) (wty_s _ _) (by omega) (by omega) rfl (fun b4222 b4223 => ?_))
  refine wl_of hX hb cL_964 (rw_aload_n (pc' := 965) (v := .ref 0) rfl rfl rfl ?_)
  refine wl_of hX hb cL_965 (rw_iload (pc' := 967) (z := i) rfl rfl ?_)
  refine wl_of hX hb cL_967 (rw_iconst (pc' := 968) rfl ?_)
  refine wl_of hX hb cL_968 (rw_iadd (pc' := 969) rfl ?_)
  refine wl_of hX hb cL_969 (xa_I (so := 0) (pc' := 970) (a := 0) hW g0 (wsh_s _) (by omega) (wty_s _ _) (by omega) (by omega) rfl (fun b4224 b4225 => ?_))
  obtain ⟨B, tc, tm, cu, dr, C8, e8, d8, n8, g8, ce8, e0, gtc, htc, em, gtm, htm, ecu, gcu, edr, gdr, hcu, hdr, hdec, hded, hsp, hC1, hC2, hcu8, hrb8, hcg8, hmn8, hE, hZ, hn8, hXA, hV8, hSG, ece8, gce8, hcen8, hhdr8, hknn8, -⟩ := hXI
  have hN3 := RB_n3 hrb8
  have hE13 : ∀ h : Nat, h < 24 → 0 ≤ e8 13 h ∧ e8 13 h ≤ 100 := fun k hk => by
    obtain ⟨s, h1, h2, h3⟩ := hcu8.1.2.2.1
    exact ⟨(h3 k hk).1, (h3 k hk).2.1⟩
  have hXW := hXA.1
  have hXN := hXA.2
  have hE0 : e8 0 3 = d8 0 3 ∧ e8 0 0 = d8 0 0 := by
    have h := hE 0 (by decide)
    exact ⟨congrFun h 3, congrFun h 0⟩
  have u4226 := CU_k hcu8
  have h4227 : CY T H cu (d8 0 3) g8 (H cu 17) := ⟨hcg8, rfl⟩
  have h4228 : RY T H m (d8 0 3) g8 (H m 32) := ⟨hmn8, rfl⟩
  obtain ⟨t9, ht9⟩ : ∃ t : Int, t = H x 9 := ⟨_, rfl⟩
  obtain ⟨y9, hy9⟩ : ∃ y : Int, y = H 0 ((i + 2).toNat) := ⟨_, rfl⟩
  obtain ⟨r4229, q4230, g4231⟩ := hW.ref gx (t' := 6) (n := 13) (j := 2) (p := 0) (q := 0) rfl (by decide) rfl
  refine wl_of hX hb cL_970 (xc_V (pc' := 973) (r := x) (as := [vI (H 0 ((i + 1).toNat)), vI (H 0 ((i + 2).toNat))]) (st := []) (lm_11_126) rfl rfl (Nat.le_of_ble_eq_true rfl) hW gx sh_1 (by decide) rfl (by decide) (u_109 (e := e8) (d := d8) (n := n8) hW gx ⟨by omega, by omega⟩ ⟨by omega, by omega⟩ ecu gcu q4230 g4231 ece8 gce8 (by assumption) (by assumption) (by omega) (by omega) (by omega) (by omega) hcu8 hcen8 hhdr8) (fun R4232 T4233 H4234 p4235 => ?_))
  obtain ⟨e4236, w4238, f4239, z4240, e4237, b4241, p4242⟩ := p4235
  subst e4236
  subst e4237
  show WL _ _ _ _ 973 [(4, vI i), (3, .ref o), (2, .ref m), (1, .ref x), (0, .ref 0)] [vI z4240] _ H4234
  refine wl_of hX hb cL_973 (rw_pop (pc' := 974) rfl rfl ?_)
  refine wl_of hX hb cL_974 (rw_aload_n (pc' := 975) (v := .ref m) rfl rfl rfl ?_)
  refine wl_of hX hb cL_975 (rw_aload_n (pc' := 976) (v := .ref 0) rfl rfl rfl ?_)
  refine wl_of hX hb cL_976 (rw_iload (pc' := 978) (z := i) rfl rfl ?_)
  refine wl_of hX hb cL_978 (rw_iconst (pc' := 979) rfl ?_)
  refine wl_of hX hb cL_979 (rw_iadd (pc' := 980) rfl ?_)
  have k4246 : H4234 0 ((i + 1).toNat) = H 0 ((i + 1).toNat) := (f4239 0 ((i + 1).toNat) _ g0 (wmem_s rfl))
  refine wl_of hX hb cL_980 (xa_I (so := 0) (pc' := 981) (a := 0) w4238 g0 (wsh_s _) (by omega) (wty_s _ _) (by omega) (by omega) rfl (fun b4244 b4245 => ?_))
  refine wl_of hX hb cL_981 (rw_aload_n (pc' := 982) (v := .ref 0) rfl rfl rfl ?_)
  refine wl_of hX hb cL_982 (rw_iload (pc' := 984) (z := i) rfl rfl ?_)
  refine wl_of hX hb cL_984 (rw_iconst (pc' := 985) rfl ?_)
  refine wl_of hX hb cL_985 (rw_iadd (pc' := 986) rfl ?_)
  have k4249 : H4234 0 ((i + 2).toNat) = H 0 ((i + 2).toNat) := (f4239 0 ((i + 2).toNat) _ g0 (wmem_s rfl))
  refine wl_of hX hb cL_986 (xa_I (so := 0) (pc' := 987) (a := 0) w4238 g0 (wsh_s _) (by omega) (wty_s _ _) (by omega) (by omega) rfl (fun b4247 b4248 => ?_))
  have k4250 : wKI H4234 m = wKI H m := (wKI_fr hW gm f4239 rfl)
  have k4251 : H4234 x 9 = H x 9 := (f4239 x 9 _ gx rfl)
  have k4252 : H4234 m 6 = H m 6 := (f4239 m 6 _ gm rfl)
  have k4253 : H4234 x 11 = H x 11 := (f4239 x 11 _ gx rfl)
  have k4254 : H4234 m 13 = H m 13 := (f4239 m 13 _ gm rfl)
  have k4255 : H4234 x 8 = H x 8 := (f4239 x 8 _ gx rfl)
  have k4256 : H4234 m 3 = H m 3 := (f4239 m 3 _ gm rfl)
  rw [show H4234 0 ((i + 2).toNat) = H 0 ((i + 2).toNat) by omega]
  rw [show H4234 0 ((i + 1).toNat) = H 0 ((i + 1).toNat) by omega]
  have h4257 : RB T H4234 m e8 d8 := (RB_fr hW gm f4239 rfl hrb8)
  have h4258 : KNN T H4234 m e8 d8 := (KNN_fr hW gm f4239 rfl hknn8)
  refine wl_of hX hb cL_987 (xc_V (pc' := 990) (r := m) (as := [vI (H 0 ((i + 1).toNat)), vI (H 0 ((i + 2).toNat))]) (st := []) (lm_11_129) rfl rfl (Nat.le_of_ble_eq_true rfl) w4238 gm sh_42 (by decide) rfl (by decide) (u_259 (e := e8) (d := d8) w4238 gm ⟨by omega, by omega⟩ ⟨by omega, by omega⟩ (by omega) (by assumption) (by assumption) (by assumption) (by assumption) h4257 h4258) (fun R4259 T4260 H4261 p4262 => ?_))
  obtain ⟨e4263, w4265, f4266, z4267, e4264, b4268, p4269⟩ := p4262
  subst e4263
  subst e4264
  obtain ⟨a4270, a4271⟩ := p4269
  show WL _ _ _ _ 990 [(4, vI i), (3, .ref o), (2, .ref m), (1, .ref x), (0, .ref 0)] [vI z4267] _ H4261
  refine wl_of hX hb cL_990 (rw_pop (pc' := 991) rfl rfl ?_)
  refine wl_of hX hb cL_991 (rw_goto (p1 := 1653) (by decide) ?_)
  have k4272 : H4261 x 9 = H4234 x 9 := (f4266 x 9 _ gx rfl)
  have k4273 : H4261 m 6 = H4234 m 6 := (f4266 m 6 _ gm rfl)
  have k4274 : H4261 x 11 = H4234 x 11 := (f4266 x 11 _ gx rfl)
  have k4275 : H4261 m 13 = H4234 m 13 := (f4266 m 13 _ gm rfl)
  have k4276 : H4261 x 8 = H4234 x 8 := (f4266 x 8 _ gx rfl)
  have k4277 : H4261 m 3 = H4234 m 3 := (f4266 m 3 _ gm rfl)
  have k4278 : H4261 x 0 = H x 0 := ((f4266 x 0 _ gx rfl).trans (f4239 x 0 _ gx rfl))
  have q4279 : H4261 x 0 = (tc : Int) := k4278.trans e0
  have k4280 : H4261 m 5 = H m 5 := ((f4266 m 5 _ gm rfl).trans (f4239 m 5 _ gm rfl))
  have q4281 : H4261 m 5 = (tm : Int) := k4280.trans em
  have k4282 : H4261 x 6 = H x 6 := ((f4266 x 6 _ gx rfl).trans (f4239 x 6 _ gx rfl))
  have q4283 : H4261 x 6 = (cu : Int) := k4282.trans ecu
  have k4284 : H4261 x 7 = H x 7 := ((f4266 x 7 _ gx rfl).trans (f4239 x 7 _ gx rfl))
  have q4285 : H4261 x 7 = (dr : Int) := k4284.trans edr
  have h4286 : CEN T H4261 ce8 e8 d8 := (CEN_fr w4238 gce8 f4266 rfl p4242)
  have h4287 : TP T H4261 tc B := (TP_fr w4238 gtc f4266 rfl (TP_fr hW gtc f4239 rfl htc))
  have h4288 : TM T H4261 tm B := (TM_fr w4238 gtm f4266 rfl (TM_fr hW gtm f4239 rfl htm))
  have h4289 : DD T H4261 cu  := (DD_fr w4238 gcu f4266 rfl (DD_fr hW gcu f4239 rfl hcu))
  have h4290 : DD T H4261 dr  := (DD_fr w4238 gdr f4266 rfl (DD_fr hW gdr f4239 rfl hdr))
  have h4291 : DE T H4261 cu  := (DE_fr w4238 gcu f4266 rfl (DE_fr hW gcu f4239 rfl hdec))
  have h4292 : DE T H4261 dr  := (DE_fr w4238 gdr f4266 rfl (DE_fr hW gdr f4239 rfl hded))
  have h4293 : SP T H4261 x C8 := (SP_fr w4238 gx f4266 rfl (SP_fr hW gx f4239 rfl hsp))
  have h4294 : CU T H4261 cu e8 d8 n8 := (CU_fr w4238 gcu f4266 rfl (CU_fr hW gcu f4239 rfl hcu8))
  have h4295 : CY T H4261 cu (d8 0 3) g8 (H cu 17) := (CY_fr w4238 gcu f4266 rfl (CY_fr hW gcu f4239 rfl h4227))
  have k4296 : H4261 x 3 = H x 3 := ((f4266 x 3 _ gx rfl).trans (f4239 x 3 _ gx rfl))
  have q4297 : H4261 x 3 = (ce8 : Int) := k4296.trans ece8
  have h4298 : HDR T H4261 ce8  := (HDR_fr w4238 gce8 f4266 rfl (HDR_fr hW gce8 f4239 rfl hhdr8))
  have h4299 : RY T H4261 m (d8 0 3) g8 (H m 32) := (RY_fr w4238 gm f4266 rfl (RY_fr hW gm f4239 rfl h4228))
  have h4300 : RB T H4261 m e8 d8 := (RB_fr w4238 gm f4266 rfl h4257)
  exact WL.loc hX (by simp) (next T H4261 ⟨⟨w4265, g0, gx, gm, go, by omega, by omega⟩, ⟨_, tc, tm, cu, dr, _, _, _, _, _, ce8, q4279, gtc, h4287, q4281, gtm, h4288, q4283, gcu, q4285, gdr, h4289, h4290, h4291, h4292, h4293, hC1, hC2, h4294, h4300, (h4295).1, (h4299).1, hE, hZ, (by omega), (by assumption), (by omega), (by first | assumption | exact SG_0), q4297, gce8, h4286, h4298, a4271, gm⟩, by omega, by omega⟩ (by omega) (by omega))
set_option maxHeartbeats 4000000 in
theorem wl_c26 {kt : Nat → Option mc_E} {CB SB : Nat} {X : mc_S → Prop} {T : wq_T} {H : wq_H} {Len x m o : Nat} {i : Int} (hX : wlX kt CB SB X) (hb : T.2.1 ≤ CB ∧ T.2.2.1 ≤ SB) (hI : wlJ Len x m o T H) (hL : Len ≤ 3072) (hi : 0 ≤ i ∧ i + 6 ≤ Len) (hb2 : T.2.1 + 20 ≤ CB ∧ T.2.2.1 + 500 ≤ SB)  (next : ∀ T' H', wlJ Len x m o T' H' → T'.2.1 ≤ T.2.1 + 20 → T'.2.2.1 ≤ T.2.2.1 + 500 → WL kt CB SB X 1653 (wlL i x m o) [] T' H') : WL kt CB SB X 994 (wlL i x m o) [] T H := by
  obtain ⟨⟨hW, g0, gx, gm, go, hK, hr⟩, hXI, hY1, hY2⟩ := hI
  refine wl_of hX hb cL_994 (rw_aload_n (pc' := 995) (v := .ref x) rfl rfl rfl ?_)
  refine wl_of hX hb cL_995 (rw_aload_n (pc' := 996) (v := .ref 0) rfl rfl rfl ?_)
  refine wl_of hX hb cL_996 (rw_iload (pc' := 998) (z := i) rfl rfl ?_)
  refine wl_of hX hb cL_998 (rw_iconst (pc' := 999) rfl ?_)
  refine wl_of hX hb cL_999 (rw_iadd (pc' := 1000) rfl ?_)
  refine wl_of hX hb cL_1000 (xa_I (so := 0) (pc' := 1001) (a := 0) hW g0 (wsh_s _) (by omega) (wty_s _ _) (by omega) (by omega) rfl (fun b4301 b4302 => ?_))
  obtain ⟨B, tc, tm, cu, dr, C8, e8, d8, n8, g8, ce8, e0, gtc, htc, em, gtm, htm, ecu, gcu, edr, gdr, hcu, hdr, hdec, hded, hsp, hC1, hC2, hcu8, hrb8, hcg8, hmn8, hE, hZ, hn8, hXA, hV8, hSG, ece8, gce8, hcen8, hhdr8, hknn8, -⟩ := hXI
  have hN3 := RB_n3 hrb8
  have hE13 : ∀ h : Nat, h < 24 → 0 ≤ e8 13 h ∧ e8 13 h ≤ 100 := fun k hk => by
    obtain ⟨s, h1, h2, h3⟩ := hcu8.1.2.2.1
    exact ⟨(h3 k hk).1, (h3 k hk).2.1⟩
  have hXW := hXA.1
  have hXN := hXA.2
  have hE0 : e8 0 3 = d8 0 3 ∧ e8 0 0 = d8 0 0 := by
    have h := hE 0 (by decide)
    exact ⟨congrFun h 3, congrFun h 0⟩
  have u4303 := CU_k hcu8
  have h4304 : CY T H cu (d8 0 3) g8 (H cu 17) := ⟨hcg8, rfl⟩
  have h4305 : RY T H m (d8 0 3) g8 (H m 32) := ⟨hmn8, rfl⟩
  obtain ⟨t9, ht9⟩ : ∃ t : Int, t = H x 9 := ⟨_, rfl⟩
  obtain ⟨y9, hy9⟩ : ∃ y : Int, y = H 0 ((i + 1).toNat) := ⟨_, rfl⟩
  obtain ⟨r4306, q4307, g4308⟩ := hW.ref gx (t' := 6) (n := 13) (j := 2) (p := 0) (q := 0) rfl (by decide) rfl
  refine wl_of hX hb cL_1001 (xc_V (pc' := 1004) (r := x) (as := [vI (H 0 ((i + 1).toNat))]) (st := []) (lm_11_130) rfl rfl (Nat.le_of_ble_eq_true rfl) hW gx sh_1 (by decide) rfl (by decide) (u_112 (e := e8) (d := d8) (n := n8) hW gx ⟨by omega, by omega⟩ ecu gcu q4307 g4308 ece8 gce8 (by assumption) (by assumption) (by omega) (by omega) (by omega) (by omega) hcu8 hcen8 hhdr8) (fun R4309 T4310 H4311 p4312 => ?_))
  obtain ⟨e4313, w4315, f4316, z4317, e4314, b4318, p4319⟩ := p4312
  subst e4313
  subst e4314
  show WL _ _ _ _ 1004 [(4, vI i), (3, .ref o), (2, .ref m), (1, .ref x), (0, .ref 0)] [vL z4317] _ H4311
  refine wl_of hX hb cL_1004 (rw_pop2 (pc' := 1005) rfl rfl ?_)
  refine wl_of hX hb cL_1005 (rw_aload_n (pc' := 1006) (v := .ref m) rfl rfl rfl ?_)
  refine wl_of hX hb cL_1006 (rw_aload_n (pc' := 1007) (v := .ref 0) rfl rfl rfl ?_)
  refine wl_of hX hb cL_1007 (rw_iload (pc' := 1009) (z := i) rfl rfl ?_)
  refine wl_of hX hb cL_1009 (rw_iconst (pc' := 1010) rfl ?_)
  refine wl_of hX hb cL_1010 (rw_iadd (pc' := 1011) rfl ?_)
  have k4323 : H4311 0 ((i + 1).toNat) = H 0 ((i + 1).toNat) := (f4316 0 ((i + 1).toNat) _ g0 (wmem_s rfl))
  refine wl_of hX hb cL_1011 (xa_I (so := 0) (pc' := 1012) (a := 0) w4315 g0 (wsh_s _) (by omega) (wty_s _ _) (by omega) (by omega) rfl (fun b4321 b4322 => ?_))
  have k4324 : wKI H4311 m = wKI H m := (wKI_fr hW gm f4316 rfl)
  have k4325 : H4311 x 9 = H x 9 := (f4316 x 9 _ gx rfl)
  have k4326 : H4311 m 6 = H m 6 := (f4316 m 6 _ gm rfl)
  have k4327 : H4311 x 11 = H x 11 := (f4316 x 11 _ gx rfl)
  have k4328 : H4311 m 13 = H m 13 := (f4316 m 13 _ gm rfl)
  have k4329 : H4311 x 8 = H x 8 := (f4316 x 8 _ gx rfl)
  have k4330 : H4311 m 3 = H m 3 := (f4316 m 3 _ gm rfl)
  rw [show H4311 0 ((i + 1).toNat) = H 0 ((i + 1).toNat) by omega]
  have h4331 : RB T H4311 m e8 d8 := (RB_fr hW gm f4316 rfl hrb8)
  have h4332 : KNN T H4311 m e8 d8 := (KNN_fr hW gm f4316 rfl hknn8)
  refine wl_of hX hb cL_1012 (xc_V (pc' := 1015) (r := m) (as := [vI (H 0 ((i + 1).toNat))]) (st := []) (lm_11_134) rfl rfl (Nat.le_of_ble_eq_true rfl) w4315 gm sh_42 (by decide) rfl (by decide) (u_260 (e := e8) (d := d8) w4315 gm ⟨by omega, by omega⟩ (by omega) (by assumption) (by assumption) (by assumption) (by assumption) h4331 h4332) (fun R4333 T4334 H4335 p4336 => ?_))
  obtain ⟨e4337, w4339, f4340, z4341, e4338, b4342, p4343⟩ := p4336
  subst e4337
  subst e4338
  obtain ⟨a4344, a4345⟩ := p4343
  show WL _ _ _ _ 1015 [(4, vI i), (3, .ref o), (2, .ref m), (1, .ref x), (0, .ref 0)] [vL z4341] _ H4335
  refine wl_of hX hb cL_1015 (rw_pop2 (pc' := 1016) rfl rfl ?_)
  refine wl_of hX hb cL_1016 (rw_goto (p1 := 1653) (by decide) ?_)
  have k4346 : H4335 x 9 = H4311 x 9 := (f4340 x 9 _ gx rfl)
  have k4347 : H4335 m 6 = H4311 m 6 := (f4340 m 6 _ gm rfl)
  have k4348 : H4335 x 11 = H4311 x 11 := (f4340 x 11 _ gx rfl)
  have k4349 : H4335 m 13 = H4311 m 13 := (f4340 m 13 _ gm rfl)
  have k4350 : H4335 x 8 = H4311 x 8 := (f4340 x 8 _ gx rfl)
  have k4351 : H4335 m 3 = H4311 m 3 := (f4340 m 3 _ gm rfl)
  have k4352 : H4335 x 0 = H x 0 := ((f4340 x 0 _ gx rfl).trans (f4316 x 0 _ gx rfl))
  have q4353 : H4335 x 0 = (tc : Int) := k4352.trans e0
  have k4354 : H4335 m 5 = H m 5 := ((f4340 m 5 _ gm rfl).trans (f4316 m 5 _ gm rfl))
  have q4355 : H4335 m 5 = (tm : Int) := k4354.trans em
  have k4356 : H4335 x 6 = H x 6 := ((f4340 x 6 _ gx rfl).trans (f4316 x 6 _ gx rfl))
  have q4357 : H4335 x 6 = (cu : Int) := k4356.trans ecu
  have k4358 : H4335 x 7 = H x 7 := ((f4340 x 7 _ gx rfl).trans (f4316 x 7 _ gx rfl))
  have q4359 : H4335 x 7 = (dr : Int) := k4358.trans edr
  have h4360 : CEN T H4335 ce8 e8 d8 := (CEN_fr w4315 gce8 f4340 rfl p4319)
  have h4361 : TP T H4335 tc B := (TP_fr w4315 gtc f4340 rfl (TP_fr hW gtc f4316 rfl htc))
  have h4362 : TM T H4335 tm B := (TM_fr w4315 gtm f4340 rfl (TM_fr hW gtm f4316 rfl htm))
  have h4363 : DD T H4335 cu  := (DD_fr w4315 gcu f4340 rfl (DD_fr hW gcu f4316 rfl hcu))
  have h4364 : DD T H4335 dr  := (DD_fr w4315 gdr f4340 rfl (DD_fr hW gdr f4316 rfl hdr))
  have h4365 : DE T H4335 cu  := (DE_fr w4315 gcu f4340 rfl (DE_fr hW gcu f4316 rfl hdec))
  have h4366 : DE T H4335 dr  := (DE_fr w4315 gdr f4340 rfl (DE_fr hW gdr f4316 rfl hded))
  have h4367 : SP T H4335 x C8 := (SP_fr w4315 gx f4340 rfl (SP_fr hW gx f4316 rfl hsp))
  have h4368 : CU T H4335 cu e8 d8 n8 := (CU_fr w4315 gcu f4340 rfl (CU_fr hW gcu f4316 rfl hcu8))
  have h4369 : CY T H4335 cu (d8 0 3) g8 (H cu 17) := (CY_fr w4315 gcu f4340 rfl (CY_fr hW gcu f4316 rfl h4304))
  have k4370 : H4335 x 3 = H x 3 := ((f4340 x 3 _ gx rfl).trans (f4316 x 3 _ gx rfl))
  have q4371 : H4335 x 3 = (ce8 : Int) := k4370.trans ece8
  have h4372 : HDR T H4335 ce8  := (HDR_fr w4315 gce8 f4340 rfl (HDR_fr hW gce8 f4316 rfl hhdr8))
  have h4373 : RY T H4335 m (d8 0 3) g8 (H m 32) := (RY_fr w4315 gm f4340 rfl (RY_fr hW gm f4316 rfl h4305))
  have h4374 : RB T H4335 m e8 d8 := (RB_fr w4315 gm f4340 rfl h4331)
  exact WL.loc hX (by simp) (next T H4335 ⟨⟨w4339, g0, gx, gm, go, by omega, by omega⟩, ⟨_, tc, tm, cu, dr, _, _, _, _, _, ce8, q4353, gtc, h4361, q4355, gtm, h4362, q4357, gcu, q4359, gdr, h4363, h4364, h4365, h4366, h4367, hC1, hC2, h4368, h4374, (h4369).1, (h4373).1, hE, hZ, (by omega), (by assumption), (by omega), (by first | assumption | exact SG_0), q4371, gce8, h4360, h4372, a4345, gm⟩, by omega, by omega⟩ (by omega) (by omega))
set_option maxHeartbeats 4000000 in
theorem wl_c27 {kt : Nat → Option mc_E} {CB SB : Nat} {X : mc_S → Prop} {T : wq_T} {H : wq_H} {Len x m o : Nat} {i : Int} (hX : wlX kt CB SB X) (hb : T.2.1 ≤ CB ∧ T.2.2.1 ≤ SB) (hI : wlJ Len x m o T H) (hL : Len ≤ 3072) (hi : 0 ≤ i ∧ i + 6 ≤ Len) (hb2 : T.2.1 + 20 ≤ CB ∧ T.2.2.1 + 500 ≤ SB)  (next : ∀ T' H', wlJ Len x m o T' H' → T'.2.1 ≤ T.2.1 + 20 → T'.2.2.1 ≤ T.2.2.1 + 500 → WL kt CB SB X 1653 (wlL i x m o) [] T' H') : WL kt CB SB X 1019 (wlL i x m o) [] T H := by
  obtain ⟨⟨hW, g0, gx, gm, go, hK, hr⟩, hXI, hY1, hY2⟩ := hI
  refine wl_of hX hb cL_1019 (rw_aload_n (pc' := 1020) (v := .ref x) rfl rfl rfl ?_)
  refine wl_of hX hb cL_1020 (rw_aload_n (pc' := 1021) (v := .ref 0) rfl rfl rfl ?_)
  refine wl_of hX hb cL_1021 (rw_iload (pc' := 1023) (z := i) rfl rfl ?_)
  refine wl_of hX hb cL_1023 (rw_iconst (pc' := 1024) rfl ?_)
  refine wl_of hX hb cL_1024 (rw_iadd (pc' := 1025) rfl ?_)
  refine wl_of hX hb cL_1025 (xa_I (so := 0) (pc' := 1026) (a := 0) hW g0 (wsh_s _) (by omega) (wty_s _ _) (by omega) (by omega) rfl (fun b4375 b4376 => ?_))
  refine wl_of hX hb cL_1026 (rw_aload_n (pc' := 1027) (v := .ref 0) rfl rfl rfl ?_)
  refine wl_of hX hb cL_1027 (rw_iload (pc' := 1029) (z := i) rfl rfl ?_)
  refine wl_of hX hb cL_1029 (rw_iconst (pc' := 1030) rfl ?_)
  refine wl_of hX hb cL_1030 (rw_iadd (pc' := 1031) rfl ?_)
  refine wl_of hX hb cL_1031 (xa_I (so := 0) (pc' := 1032) (a := 0) hW g0 (wsh_s _) (by omega) (wty_s _ _) (by omega) (by omega) rfl (fun b4377 b4378 => ?_))
  obtain ⟨B, tc, tm, cu, dr, C8, e8, d8, n8, g8, ce8, e0, gtc, htc, em, gtm, htm, ecu, gcu, edr, gdr, hcu, hdr, hdec, hded, hsp, hC1, hC2, hcu8, hrb8, hcg8, hmn8, hE, hZ, hn8, hXA, hV8, hSG, ece8, gce8, hcen8, hhdr8, hknn8, -⟩ := hXI
  have hN3 := RB_n3 hrb8
  have hE13 : ∀ h : Nat, h < 24 → 0 ≤ e8 13 h ∧ e8 13 h ≤ 100 := fun k hk => by
    obtain ⟨s, h1, h2, h3⟩ := hcu8.1.2.2.1
    exact ⟨(h3 k hk).1, (h3 k hk).2.1⟩
  have hXW := hXA.1
  have hXN := hXA.2
  have hE0 : e8 0 3 = d8 0 3 ∧ e8 0 0 = d8 0 0 := by
    have h := hE 0 (by decide)
    exact ⟨congrFun h 3, congrFun h 0⟩
  have u4379 := CU_k hcu8
  have h4380 : CY T H cu (d8 0 3) g8 (H cu 17) := ⟨hcg8, rfl⟩
  have h4381 : RY T H m (d8 0 3) g8 (H m 32) := ⟨hmn8, rfl⟩
  obtain ⟨t9, ht9⟩ : ∃ t : Int, t = H x 9 := ⟨_, rfl⟩
  obtain ⟨y9, hy9⟩ : ∃ y : Int, y = H 0 ((i + 2).toNat) := ⟨_, rfl⟩
  obtain ⟨r4382, q4383, g4384⟩ := hW.ref gx (t' := 6) (n := 13) (j := 2) (p := 0) (q := 0) rfl (by decide) rfl
  refine wl_of hX hb cL_1032 (xc_V (pc' := 1035) (r := x) (as := [vI (H 0 ((i + 1).toNat)), vI (H 0 ((i + 2).toNat))]) (st := []) (lm_11_135) rfl rfl (Nat.le_of_ble_eq_true rfl) hW gx sh_1 (by decide) rfl (by decide) (u_114 (e := e8) (d := d8) (n := n8) hW gx ⟨by omega, by omega⟩ ⟨by omega, by omega⟩ ecu gcu q4383 g4384 ece8 gce8 (by assumption) (by assumption) (by omega) (by omega) (by omega) (by omega) hcu8 hcen8 hhdr8) (fun R4385 T4386 H4387 p4388 => ?_))
  obtain ⟨e4389, w4391, f4392, z4393, e4390, b4394, p4395⟩ := p4388
  subst e4389
  subst e4390
  show WL _ _ _ _ 1035 [(4, vI i), (3, .ref o), (2, .ref m), (1, .ref x), (0, .ref 0)] [vI z4393] _ H4387
  refine wl_of hX hb cL_1035 (rw_pop (pc' := 1036) rfl rfl ?_)
  refine wl_of hX hb cL_1036 (rw_aload_n (pc' := 1037) (v := .ref m) rfl rfl rfl ?_)
  refine wl_of hX hb cL_1037 (rw_aload_n (pc' := 1038) (v := .ref 0) rfl rfl rfl ?_)
  refine wl_of hX hb cL_1038 (rw_iload (pc' := 1040) (z := i) rfl rfl ?_)
  refine wl_of hX hb cL_1040 (rw_iconst (pc' := 1041) rfl ?_)
  refine wl_of hX hb cL_1041 (rw_iadd (pc' := 1042) rfl ?_)
  have k4399 : H4387 0 ((i + 1).toNat) = H 0 ((i + 1).toNat) := (f4392 0 ((i + 1).toNat) _ g0 (wmem_s rfl))
  refine wl_of hX hb cL_1042 (xa_I (so := 0) (pc' := 1043) (a := 0) w4391 g0 (wsh_s _) (by omega) (wty_s _ _) (by omega) (by omega) rfl (fun b4397 b4398 => ?_))
  refine wl_of hX hb cL_1043 (rw_aload_n (pc' := 1044) (v := .ref 0) rfl rfl rfl ?_)
  refine wl_of hX hb cL_1044 (rw_iload (pc' := 1046) (z := i) rfl rfl ?_)
  refine wl_of hX hb cL_1046 (rw_iconst (pc' := 1047) rfl ?_)
  refine wl_of hX hb cL_1047 (rw_iadd (pc' := 1048) rfl ?_)
  have k4402 : H4387 0 ((i + 2).toNat) = H 0 ((i + 2).toNat) := (f4392 0 ((i + 2).toNat) _ g0 (wmem_s rfl))
  refine wl_of hX hb cL_1048 (xa_I (so := 0) (pc' := 1049) (a := 0) w4391 g0 (wsh_s _) (by omega) (wty_s _ _) (by omega) (by omega) rfl (fun b4400 b4401 => ?_))
  have k4403 : wKI H4387 m = wKI H m := (wKI_fr hW gm f4392 rfl)
  have k4404 : H4387 x 9 = H x 9 := (f4392 x 9 _ gx rfl)
  have k4405 : H4387 m 6 = H m 6 := (f4392 m 6 _ gm rfl)
  have k4406 : H4387 x 11 = H x 11 := (f4392 x 11 _ gx rfl)
  have k4407 : H4387 m 13 = H m 13 := (f4392 m 13 _ gm rfl)
  have k4408 : H4387 x 8 = H x 8 := (f4392 x 8 _ gx rfl)
  have k4409 : H4387 m 3 = H m 3 := (f4392 m 3 _ gm rfl)
  rw [show H4387 0 ((i + 2).toNat) = H 0 ((i + 2).toNat) by omega]
  rw [show H4387 0 ((i + 1).toNat) = H 0 ((i + 1).toNat) by omega]
  have h4410 : RB T H4387 m e8 d8 := (RB_fr hW gm f4392 rfl hrb8)
  have h4411 : KNN T H4387 m e8 d8 := (KNN_fr hW gm f4392 rfl hknn8)
  refine wl_of hX hb cL_1049 (xc_V (pc' := 1052) (r := m) (as := [vI (H 0 ((i + 1).toNat)), vI (H 0 ((i + 2).toNat))]) (st := []) (lm_11_138) rfl rfl (Nat.le_of_ble_eq_true rfl) w4391 gm sh_42 (by decide) rfl (by decide) (u_261 (e := e8) (d := d8) w4391 gm ⟨by omega, by omega⟩ ⟨by omega, by omega⟩ (by omega) (by assumption) (by assumption) (by assumption) (by assumption) h4410 h4411) (fun R4412 T4413 H4414 p4415 => ?_))
  obtain ⟨e4416, w4418, f4419, z4420, e4417, b4421, p4422⟩ := p4415
  subst e4416
  subst e4417
  obtain ⟨a4423, a4424⟩ := p4422
  show WL _ _ _ _ 1052 [(4, vI i), (3, .ref o), (2, .ref m), (1, .ref x), (0, .ref 0)] [vI z4420] _ H4414
  refine wl_of hX hb cL_1052 (rw_pop (pc' := 1053) rfl rfl ?_)
  refine wl_of hX hb cL_1053 (rw_goto (p1 := 1653) (by decide) ?_)
  have k4425 : H4414 x 9 = H4387 x 9 := (f4419 x 9 _ gx rfl)
  have k4426 : H4414 m 6 = H4387 m 6 := (f4419 m 6 _ gm rfl)
  have k4427 : H4414 x 11 = H4387 x 11 := (f4419 x 11 _ gx rfl)
  have k4428 : H4414 m 13 = H4387 m 13 := (f4419 m 13 _ gm rfl)
  have k4429 : H4414 x 8 = H4387 x 8 := (f4419 x 8 _ gx rfl)
  have k4430 : H4414 m 3 = H4387 m 3 := (f4419 m 3 _ gm rfl)
  have k4431 : H4414 x 0 = H x 0 := ((f4419 x 0 _ gx rfl).trans (f4392 x 0 _ gx rfl))
  have q4432 : H4414 x 0 = (tc : Int) := k4431.trans e0
  have k4433 : H4414 m 5 = H m 5 := ((f4419 m 5 _ gm rfl).trans (f4392 m 5 _ gm rfl))
  have q4434 : H4414 m 5 = (tm : Int) := k4433.trans em
  have k4435 : H4414 x 6 = H x 6 := ((f4419 x 6 _ gx rfl).trans (f4392 x 6 _ gx rfl))
  have q4436 : H4414 x 6 = (cu : Int) := k4435.trans ecu
  have k4437 : H4414 x 7 = H x 7 := ((f4419 x 7 _ gx rfl).trans (f4392 x 7 _ gx rfl))
  have q4438 : H4414 x 7 = (dr : Int) := k4437.trans edr
  have h4439 : CEN T H4414 ce8 e8 d8 := (CEN_fr w4391 gce8 f4419 rfl p4395)
  have h4440 : TP T H4414 tc B := (TP_fr w4391 gtc f4419 rfl (TP_fr hW gtc f4392 rfl htc))
  have h4441 : TM T H4414 tm B := (TM_fr w4391 gtm f4419 rfl (TM_fr hW gtm f4392 rfl htm))
  have h4442 : DD T H4414 cu  := (DD_fr w4391 gcu f4419 rfl (DD_fr hW gcu f4392 rfl hcu))
  have h4443 : DD T H4414 dr  := (DD_fr w4391 gdr f4419 rfl (DD_fr hW gdr f4392 rfl hdr))
  have h4444 : DE T H4414 cu  := (DE_fr w4391 gcu f4419 rfl (DE_fr hW gcu f4392 rfl hdec))
  have h4445 : DE T H4414 dr  := (DE_fr w4391 gdr f4419 rfl (DE_fr hW gdr f4392 rfl hded))
  have h4446 : SP T H4414 x C8 := (SP_fr w4391 gx f4419 rfl (SP_fr hW gx f4392 rfl hsp))
  have h4447 : CU T H4414 cu e8 d8 n8 := (CU_fr w4391 gcu f4419 rfl (CU_fr hW gcu f4392 rfl hcu8))
  have h4448 : CY T H4414 cu (d8 0 3) g8 (H cu 17) := (CY_fr w4391 gcu f4419 rfl (CY_fr hW gcu f4392 rfl h4380))
  have k4449 : H4414 x 3 = H x 3 := ((f4419 x 3 _ gx rfl).trans (f4392 x 3 _ gx rfl))
  have q4450 : H4414 x 3 = (ce8 : Int) := k4449.trans ece8
  have h4451 : HDR T H4414 ce8  := (HDR_fr w4391 gce8 f4419 rfl (HDR_fr hW gce8 f4392 rfl hhdr8))
  have h4452 : RY T H4414 m (d8 0 3) g8 (H m 32) := (RY_fr w4391 gm f4419 rfl (RY_fr hW gm f4392 rfl h4381))
  have h4453 : RB T H4414 m e8 d8 := (RB_fr w4391 gm f4419 rfl h4410)
  exact WL.loc hX (by simp) (next T H4414 ⟨⟨w4418, g0, gx, gm, go, by omega, by omega⟩, ⟨_, tc, tm, cu, dr, _, _, _, _, _, ce8, q4432, gtc, h4440, q4434, gtm, h4441, q4436, gcu, q4438, gdr, h4442, h4443, h4444, h4445, h4446, hC1, hC2, h4447, h4453, (h4448).1, (h4452).1, hE, hZ, (by omega), (by assumption), (by omega), (by first | assumption | exact SG_0), q4450, gce8, h4439, h4451, a4424, gm⟩, by omega, by omega⟩ (by omega) (by omega))
set_option maxHeartbeats 4000000 in
theorem wl_c28 {kt : Nat → Option mc_E} {CB SB : Nat} {X : mc_S → Prop} {T : wq_T} {H : wq_H} {Len x m o : Nat} {i : Int} (hX : wlX kt CB SB X) (hb : T.2.1 ≤ CB ∧ T.2.2.1 ≤ SB) (hI : wlJ Len x m o T H) (hL : Len ≤ 3072) (hi : 0 ≤ i ∧ i + 6 ≤ Len) (hb2 : T.2.1 + 20 ≤ CB ∧ T.2.2.1 + 500 ≤ SB)  (next : ∀ T' H', wlJ Len x m o T' H' → T'.2.1 ≤ T.2.1 + 20 → T'.2.2.1 ≤ T.2.2.1 + 500 → WL kt CB SB X 1653 (wlL i x m o) [] T' H') : WL kt CB SB X 1056 (wlL i x m o) [] T H := by
  obtain ⟨⟨hW, g0, gx, gm, go, hK, hr⟩, hXI, hY1, hY2⟩ := hI
  refine wl_of hX hb cL_1056 (rw_aload_n (pc' := 1057) (v := .ref x) rfl rfl rfl ?_)
  refine wl_of hX hb cL_1057 (rw_aload_n (pc' := 1058) (v := .ref 0) rfl rfl rfl ?_)
  refine wl_of hX hb cL_1058 (rw_iload (pc' := 1060) (z := i) rfl rfl ?_)
  refine wl_of hX hb cL_1060 (rw_iconst (pc' := 1061) rfl ?_)
  refine wl_of hX hb cL_1061 (rw_iadd (pc' := 1062) rfl ?_)
  refine wl_of hX hb cL_1062 (xa_I (so := 0) (pc' := 1063) (a := 0) hW g0 (wsh_s _) (by omega) (wty_s _ _) (by omega) (by omega) rfl (fun b4454 b4455 => ?_))
  refine wl_of hX hb cL_1063 (rw_aload_n (pc' := 1064) (v := .ref 0) rfl rfl rfl ?_)
  refine wl_of hX hb cL_1064 (rw_iload (pc' := 1066) (z := i) rfl rfl ?_)
  refine wl_of hX hb cL_1066 (rw_iconst (pc' := 1067) rfl ?_)
  refine wl_of hX hb cL_1067 (rw_iadd (pc' := 1068) rfl ?_)
  refine wl_of hX hb cL_1068 (xa_I (so := 0) (pc' := 1069) (a := 0) hW g0 (wsh_s _) (by omega) (wty_s _ _) (by omega) (by omega) rfl (fun b4456 b4457 => ?_))
  refine wl_of hX hb cL_1069 (rw_if_eq (p1 := 1076) (p2 := 1072) (by decide) rfl ⟨by omega, by omega⟩ (fun c4458 => ?_) (fun c4458 => ?_))
  · refine wl_of hX hb cL_1076 (rw_iconst (pc' := 1077) rfl ?_)
    obtain ⟨B, tc, tm, cu, dr, C8, e8, d8, n8, g8, ce8, e0, gtc, htc, em, gtm, htm, ecu, gcu, edr, gdr, hcu, hdr, hdec, hded, hsp, hC1, hC2, hcu8, hrb8, hcg8, hmn8, hE, hZ, hn8, hXA, hV8, hSG, ece8, gce8, hcen8, hhdr8, hknn8, -⟩ := hXI
    have hN3 := RB_n3 hrb8
    have hE13 : ∀ h : Nat, h < 24 → 0 ≤ e8 13 h ∧ e8 13 h ≤ 100 := fun k hk => by
      obtain ⟨s, h1, h2, h3⟩ := hcu8.1.2.2.1
      exact ⟨(h3 k hk).1, (h3 k hk).2.1⟩
    have hXW := hXA.1
    have hXN := hXA.2
    have hE0 : e8 0 3 = d8 0 3 ∧ e8 0 0 = d8 0 0 := by
      have h := hE 0 (by decide)
      exact ⟨congrFun h 3, congrFun h 0⟩
    have u4459 := CU_k hcu8
    have h4460 : CY T H cu (d8 0 3) g8 (H cu 17) := ⟨hcg8, rfl⟩
    have h4461 : RY T H m (d8 0 3) g8 (H m 32) := ⟨hmn8, rfl⟩
    obtain ⟨t9, ht9⟩ : ∃ t : Int, t = H x 9 := ⟨_, rfl⟩
    obtain ⟨y9, hy9⟩ : ∃ y : Int, y = 0 := ⟨_, rfl⟩
    obtain ⟨r4462, q4463, g4464⟩ := hW.ref gx (t' := 6) (n := 13) (j := 2) (p := 0) (q := 0) rfl (by decide) rfl
    refine wl_of hX hb cL_1077 (xc_V (pc' := 1080) (r := x) (as := [vI (H 0 ((i + 1).toNat)), vI 0]) (st := []) (lm_11_139) rfl rfl (Nat.le_of_ble_eq_true rfl) hW gx sh_1 (by decide) rfl (by decide) (u_117 (e := e8) (d := d8) (n := n8) hW gx ⟨by omega, by omega⟩ ⟨by decide, by decide⟩ ecu gcu q4463 g4464 ece8 gce8 (by assumption) (by assumption) (by omega) (by omega) (by omega) (by omega) hcu8 hcen8 hhdr8) (fun R4465 T4466 H4467 p4468 => ?_))
    obtain ⟨e4469, w4471, f4472, z4473, e4470, b4474, p4475⟩ := p4468
    subst e4469
    subst e4470
    show WL _ _ _ _ 1080 [(4, vI i), (3, .ref o), (2, .ref m), (1, .ref x), (0, .ref 0)] [vI z4473] _ H4467
    refine wl_of hX hb cL_1080 (rw_pop (pc' := 1081) rfl rfl ?_)
    refine wl_of hX hb cL_1081 (rw_aload_n (pc' := 1082) (v := .ref m) rfl rfl rfl ?_)
    refine wl_of hX hb cL_1082 (rw_aload_n (pc' := 1083) (v := .ref 0) rfl rfl rfl ?_)
    refine wl_of hX hb cL_1083 (rw_iload (pc' := 1085) (z := i) rfl rfl ?_)
    refine wl_of hX hb cL_1085 (rw_iconst (pc' := 1086) rfl ?_)
    refine wl_of hX hb cL_1086 (rw_iadd (pc' := 1087) rfl ?_)
    have k4479 : H4467 0 ((i + 1).toNat) = H 0 ((i + 1).toNat) := (f4472 0 ((i + 1).toNat) _ g0 (wmem_s rfl))
    refine wl_of hX hb cL_1087 (xa_I (so := 0) (pc' := 1088) (a := 0) w4471 g0 (wsh_s _) (by omega) (wty_s _ _) (by omega) (by omega) rfl (fun b4477 b4478 => ?_))
    refine wl_of hX hb cL_1088 (rw_aload_n (pc' := 1089) (v := .ref 0) rfl rfl rfl ?_)
    refine wl_of hX hb cL_1089 (rw_iload (pc' := 1091) (z := i) rfl rfl ?_)
    refine wl_of hX hb cL_1091 (rw_iconst (pc' := 1092) rfl ?_)
    refine wl_of hX hb cL_1092 (rw_iadd (pc' := 1093) rfl ?_)
    have k4482 : H4467 0 ((i + 2).toNat) = H 0 ((i + 2).toNat) := (f4472 0 ((i + 2).toNat) _ g0 (wmem_s rfl))
    refine wl_of hX hb cL_1093 (xa_I (so := 0) (pc' := 1094) (a := 0) w4471 g0 (wsh_s _) (by omega) (wty_s _ _) (by omega) (by omega) rfl (fun b4480 b4481 => ?_))
    refine wl_of hX hb cL_1094 (rw_if_eq (p1 := 1101) (p2 := 1097) (by decide) rfl ⟨by omega, by omega⟩ (fun c4483 => ?_) (fun c4483 => ?_))
    · refine wl_of hX hb cL_1101 (rw_iconst (pc' := 1102) rfl ?_)
      have k4484 : wKI H4467 m = wKI H m := (wKI_fr hW gm f4472 rfl)
      have k4485 : H4467 x 9 = H x 9 := (f4472 x 9 _ gx rfl)
      have k4486 : H4467 m 6 = H m 6 := (f4472 m 6 _ gm rfl)
      have k4487 : H4467 x 11 = H x 11 := (f4472 x 11 _ gx rfl)
      have k4488 : H4467 m 13 = H m 13 := (f4472 m 13 _ gm rfl)
      have k4489 : H4467 x 8 = H x 8 := (f4472 x 8 _ gx rfl)
      have k4490 : H4467 m 3 = H m 3 := (f4472 m 3 _ gm rfl)
      rw [show H4467 0 ((i + 1).toNat) = H 0 ((i + 1).toNat) by omega]
      have h4491 : RB T H4467 m e8 d8 := (RB_fr hW gm f4472 rfl hrb8)
      have h4492 : KNN T H4467 m e8 d8 := (KNN_fr hW gm f4472 rfl hknn8)
      refine wl_of hX hb cL_1102 (xc_V (pc' := 1105) (r := m) (as := [vI (H 0 ((i + 1).toNat)), vI 0]) (st := []) (lm_11_142) rfl rfl (Nat.le_of_ble_eq_true rfl) w4471 gm sh_42 (by decide) rfl (by decide) (u_263 (e := e8) (d := d8) w4471 gm ⟨by omega, by omega⟩ ⟨by decide, by decide⟩ (by omega) (by assumption) (by assumption) (by assumption) (by assumption) h4491 h4492) (fun R4493 T4494 H4495 p4496 => ?_))
      obtain ⟨e4497, w4499, f4500, z4501, e4498, b4502, p4503⟩ := p4496
      subst e4497
      subst e4498
      obtain ⟨a4504, a4505⟩ := p4503
      show WL _ _ _ _ 1105 [(4, vI i), (3, .ref o), (2, .ref m), (1, .ref x), (0, .ref 0)] [vI z4501] _ H4495
      refine wl_of hX hb cL_1105 (rw_pop (pc' := 1106) rfl rfl ?_)
      refine wl_of hX hb cL_1106 (rw_goto (p1 := 1653) (by decide) ?_)
      have k4506 : H4495 x 9 = H4467 x 9 := (f4500 x 9 _ gx rfl)
      have k4507 : H4495 m 6 = H4467 m 6 := (f4500 m 6 _ gm rfl)
      have k4508 : H4495 x 11 = H4467 x 11 := (f4500 x 11 _ gx rfl)
      have k4509 : H4495 m 13 = H4467 m 13 := (f4500 m 13 _ gm rfl)
      have k4510 : H4495 x 8 = H4467 x 8 := (f4500 x 8 _ gx rfl)
      have k4511 : H4495 m 3 = H4467 m 3 := (f4500 m 3 _ gm rfl)
      have k4512 : H4495 x 0 = H x 0 := ((f4500 x 0 _ gx rfl).trans (f4472 x 0 _ gx rfl))
      have q4513 : H4495 x 0 = (tc : Int) := k4512.trans e0
      have k4514 : H4495 m 5 = H m 5 := ((f4500 m 5 _ gm rfl).trans (f4472 m 5 _ gm rfl))
      have q4515 : H4495 m 5 = (tm : Int) := k4514.trans em
      have k4516 : H4495 x 6 = H x 6 := ((f4500 x 6 _ gx rfl).trans (f4472 x 6 _ gx rfl))
      have q4517 : H4495 x 6 = (cu : Int) := k4516.trans ecu
      have k4518 : H4495 x 7 = H x 7 := ((f4500 x 7 _ gx rfl).trans (f4472 x 7 _ gx rfl))
      have q4519 : H4495 x 7 = (dr : Int) := k4518.trans edr
      have h4520 : CEN T H4495 ce8 e8 d8 := (CEN_fr w4471 gce8 f4500 rfl p4475)
      have h4521 : TP T H4495 tc B := (TP_fr w4471 gtc f4500 rfl (TP_fr hW gtc f4472 rfl htc))
      have h4522 : TM T H4495 tm B := (TM_fr w4471 gtm f4500 rfl (TM_fr hW gtm f4472 rfl htm))
      have h4523 : DD T H4495 cu  := (DD_fr w4471 gcu f4500 rfl (DD_fr hW gcu f4472 rfl hcu))
      have h4524 : DD T H4495 dr  := (DD_fr w4471 gdr f4500 rfl (DD_fr hW gdr f4472 rfl hdr))
      have h4525 : DE T H4495 cu  := (DE_fr w4471 gcu f4500 rfl (DE_fr hW gcu f4472 rfl hdec))
      have h4526 : DE T H4495 dr  := (DE_fr w4471 gdr f4500 rfl (DE_fr hW gdr f4472 rfl hded))
      have h4527 : SP T H4495 x C8 := (SP_fr w4471 gx f4500 rfl (SP_fr hW gx f4472 rfl hsp))
      have h4528 : CU T H4495 cu e8 d8 n8 := (CU_fr w4471 gcu f4500 rfl (CU_fr hW gcu f4472 rfl hcu8))
      have h4529 : CY T H4495 cu (d8 0 3) g8 (H cu 17) := (CY_fr w4471 gcu f4500 rfl (CY_fr hW gcu f4472 rfl h4460))
      have k4530 : H4495 x 3 = H x 3 := ((f4500 x 3 _ gx rfl).trans (f4472 x 3 _ gx rfl))
      have q4531 : H4495 x 3 = (ce8 : Int) := k4530.trans ece8
      have h4532 : HDR T H4495 ce8  := (HDR_fr w4471 gce8 f4500 rfl (HDR_fr hW gce8 f4472 rfl hhdr8))
      have h4533 : RY T H4495 m (d8 0 3) g8 (H m 32) := (RY_fr w4471 gm f4500 rfl (RY_fr hW gm f4472 rfl h4461))
      have h4534 : RB T H4495 m e8 d8 := (RB_fr w4471 gm f4500 rfl h4491)
      exact WL.loc hX (by simp) (next T H4495 ⟨⟨w4499, g0, gx, gm, go, by omega, by omega⟩, ⟨_, tc, tm, cu, dr, _, _, _, _, _, ce8, q4513, gtc, h4521, q4515, gtm, h4522, q4517, gcu, q4519, gdr, h4523, h4524, h4525, h4526, h4527, hC1, hC2, h4528, h4534, (h4529).1, (h4533).1, hE, hZ, (by omega), (by assumption), (by omega), (by first | assumption | exact SG_0), q4531, gce8, h4520, h4532, a4505, gm⟩, by omega, by omega⟩ (by omega) (by omega))
    · exfalso
      omega
  · refine wl_of hX hb cL_1072 (rw_iconst (pc' := 1073) rfl ?_)
    refine wl_of hX hb cL_1073 (rw_goto (p1 := 1077) (by decide) ?_)
    obtain ⟨B, tc, tm, cu, dr, C8, e8, d8, n8, g8, ce8, e0, gtc, htc, em, gtm, htm, ecu, gcu, edr, gdr, hcu, hdr, hdec, hded, hsp, hC1, hC2, hcu8, hrb8, hcg8, hmn8, hE, hZ, hn8, hXA, hV8, hSG, ece8, gce8, hcen8, hhdr8, hknn8, -⟩ := hXI
    have hN3 := RB_n3 hrb8
    have hE13 : ∀ h : Nat, h < 24 → 0 ≤ e8 13 h ∧ e8 13 h ≤ 100 := fun k hk => by
      obtain ⟨s, h1, h2, h3⟩ := hcu8.1.2.2.1
      exact ⟨(h3 k hk).1, (h3 k hk).2.1⟩
    have hXW := hXA.1
    have hXN := hXA.2
    have hE0 : e8 0 3 = d8 0 3 ∧ e8 0 0 = d8 0 0 := by
      have h := hE 0 (by decide)
      exact ⟨congrFun h 3, congrFun h 0⟩
    have u4535 := CU_k hcu8
    have h4536 : CY T H cu (d8 0 3) g8 (H cu 17) := ⟨hcg8, rfl⟩
    have h4537 : RY T H m (d8 0 3) g8 (H m 32) := ⟨hmn8, rfl⟩
    obtain ⟨t9, ht9⟩ : ∃ t : Int, t = H x 9 := ⟨_, rfl⟩
    obtain ⟨y9, hy9⟩ : ∃ y : Int, y = 1 := ⟨_, rfl⟩
    obtain ⟨r4538, q4539, g4540⟩ := hW.ref gx (t' := 6) (n := 13) (j := 2) (p := 0) (q := 0) rfl (by decide) rfl
    refine wl_of hX hb cL_1077 (xc_V (pc' := 1080) (r := x) (as := [vI (H 0 ((i + 1).toNat)), vI 1]) (st := []) (lm_11_139) rfl rfl (Nat.le_of_ble_eq_true rfl) hW gx sh_1 (by decide) rfl (by decide) (u_117 (e := e8) (d := d8) (n := n8) hW gx ⟨by omega, by omega⟩ ⟨by decide, by decide⟩ ecu gcu q4539 g4540 ece8 gce8 (by assumption) (by assumption) (by omega) (by omega) (by omega) (by omega) hcu8 hcen8 hhdr8) (fun R4541 T4542 H4543 p4544 => ?_))
    obtain ⟨e4545, w4547, f4548, z4549, e4546, b4550, p4551⟩ := p4544
    subst e4545
    subst e4546
    show WL _ _ _ _ 1080 [(4, vI i), (3, .ref o), (2, .ref m), (1, .ref x), (0, .ref 0)] [vI z4549] _ H4543
    refine wl_of hX hb cL_1080 (rw_pop (pc' := 1081) rfl rfl ?_)
    refine wl_of hX hb cL_1081 (rw_aload_n (pc' := 1082) (v := .ref m) rfl rfl rfl ?_)
    refine wl_of hX hb cL_1082 (rw_aload_n (pc' := 1083) (v := .ref 0) rfl rfl rfl ?_)
    refine wl_of hX hb cL_1083 (rw_iload (pc' := 1085) (z := i) rfl rfl ?_)
    refine wl_of hX hb cL_1085 (rw_iconst (pc' := 1086) rfl ?_)
    refine wl_of hX hb cL_1086 (rw_iadd (pc' := 1087) rfl ?_)
    have k4555 : H4543 0 ((i + 1).toNat) = H 0 ((i + 1).toNat) := (f4548 0 ((i + 1).toNat) _ g0 (wmem_s rfl))
    refine wl_of hX hb cL_1087 (xa_I (so := 0) (pc' := 1088) (a := 0) w4547 g0 (wsh_s _) (by omega) (wty_s _ _) (by omega) (by omega) rfl (fun b4553 b4554 => ?_))
    refine wl_of hX hb cL_1088 (rw_aload_n (pc' := 1089) (v := .ref 0) rfl rfl rfl ?_)
    refine wl_of hX hb cL_1089 (rw_iload (pc' := 1091) (z := i) rfl rfl ?_)
    refine wl_of hX hb cL_1091 (rw_iconst (pc' := 1092) rfl ?_)
    refine wl_of hX hb cL_1092 (rw_iadd (pc' := 1093) rfl ?_)
    have k4558 : H4543 0 ((i + 2).toNat) = H 0 ((i + 2).toNat) := (f4548 0 ((i + 2).toNat) _ g0 (wmem_s rfl))
    refine wl_of hX hb cL_1093 (xa_I (so := 0) (pc' := 1094) (a := 0) w4547 g0 (wsh_s _) (by omega) (wty_s _ _) (by omega) (by omega) rfl (fun b4556 b4557 => ?_))
    refine wl_of hX hb cL_1094 (rw_if_eq (p1 := 1101) (p2 := 1097) (by decide) rfl ⟨by omega, by omega⟩ (fun c4559 => ?_) (fun c4559 => ?_))
    · refine wl_of hX hb cL_1101 (rw_iconst (pc' := 1102) rfl ?_)
      have k4560 : wKI H4543 m = wKI H m := (wKI_fr hW gm f4548 rfl)
      have k4561 : H4543 x 9 = H x 9 := (f4548 x 9 _ gx rfl)
      have k4562 : H4543 m 6 = H m 6 := (f4548 m 6 _ gm rfl)
      have k4563 : H4543 x 11 = H x 11 := (f4548 x 11 _ gx rfl)
      have k4564 : H4543 m 13 = H m 13 := (f4548 m 13 _ gm rfl)
      have k4565 : H4543 x 8 = H x 8 := (f4548 x 8 _ gx rfl)
      have k4566 : H4543 m 3 = H m 3 := (f4548 m 3 _ gm rfl)
      rw [show H4543 0 ((i + 1).toNat) = H 0 ((i + 1).toNat) by omega]
      have h4567 : RB T H4543 m e8 d8 := (RB_fr hW gm f4548 rfl hrb8)
      have h4568 : KNN T H4543 m e8 d8 := (KNN_fr hW gm f4548 rfl hknn8)
      refine wl_of hX hb cL_1102 (xc_V (pc' := 1105) (r := m) (as := [vI (H 0 ((i + 1).toNat)), vI 0]) (st := []) (lm_11_142) rfl rfl (Nat.le_of_ble_eq_true rfl) w4547 gm sh_42 (by decide) rfl (by decide) (u_263 (e := e8) (d := d8) w4547 gm ⟨by omega, by omega⟩ ⟨by decide, by decide⟩ (by omega) (by assumption) (by assumption) (by assumption) (by assumption) h4567 h4568) (fun R4569 T4570 H4571 p4572 => ?_))
      obtain ⟨e4573, w4575, f4576, z4577, e4574, b4578, p4579⟩ := p4572
      subst e4573
      subst e4574
      obtain ⟨a4580, a4581⟩ := p4579
      show WL _ _ _ _ 1105 [(4, vI i), (3, .ref o), (2, .ref m), (1, .ref x), (0, .ref 0)] [vI z4577] _ H4571
      refine wl_of hX hb cL_1105 (rw_pop (pc' := 1106) rfl rfl ?_)
      refine wl_of hX hb cL_1106 (rw_goto (p1 := 1653) (by decide) ?_)
      have k4582 : H4571 x 9 = H4543 x 9 := (f4576 x 9 _ gx rfl)
      have k4583 : H4571 m 6 = H4543 m 6 := (f4576 m 6 _ gm rfl)
      have k4584 : H4571 x 11 = H4543 x 11 := (f4576 x 11 _ gx rfl)
      have k4585 : H4571 m 13 = H4543 m 13 := (f4576 m 13 _ gm rfl)
      have k4586 : H4571 x 8 = H4543 x 8 := (f4576 x 8 _ gx rfl)
      have k4587 : H4571 m 3 = H4543 m 3 := (f4576 m 3 _ gm rfl)
      have k4588 : H4571 x 0 = H x 0 := ((f4576 x 0 _ gx rfl).trans (f4548 x 0 _ gx rfl))
      have q4589 : H4571 x 0 = (tc : Int) := k4588.trans e0
      have k4590 : H4571 m 5 = H m 5 := ((f4576 m 5 _ gm rfl).trans (f4548 m 5 _ gm rfl))
      have q4591 : H4571 m 5 = (tm : Int) := k4590.trans em
      have k4592 : H4571 x 6 = H x 6 := ((f4576 x 6 _ gx rfl).trans (f4548 x 6 _ gx rfl))
      have q4593 : H4571 x 6 = (cu : Int) := k4592.trans ecu
      have k4594 : H4571 x 7 = H x 7 := ((f4576 x 7 _ gx rfl).trans (f4548 x 7 _ gx rfl))
      have q4595 : H4571 x 7 = (dr : Int) := k4594.trans edr
      have h4596 : CEN T H4571 ce8 e8 d8 := (CEN_fr w4547 gce8 f4576 rfl p4551)
      have h4597 : TP T H4571 tc B := (TP_fr w4547 gtc f4576 rfl (TP_fr hW gtc f4548 rfl htc))
      have h4598 : TM T H4571 tm B := (TM_fr w4547 gtm f4576 rfl (TM_fr hW gtm f4548 rfl htm))
      have h4599 : DD T H4571 cu  := (DD_fr w4547 gcu f4576 rfl (DD_fr hW gcu f4548 rfl hcu))
      have h4600 : DD T H4571 dr  := (DD_fr w4547 gdr f4576 rfl (DD_fr hW gdr f4548 rfl hdr))
      have h4601 : DE T H4571 cu  := (DE_fr w4547 gcu f4576 rfl (DE_fr hW gcu f4548 rfl hdec))
      have h4602 : DE T H4571 dr  := (DE_fr w4547 gdr f4576 rfl (DE_fr hW gdr f4548 rfl hded))
      have h4603 : SP T H4571 x C8 := (SP_fr w4547 gx f4576 rfl (SP_fr hW gx f4548 rfl hsp))
      have h4604 : CU T H4571 cu e8 d8 n8 := (CU_fr w4547 gcu f4576 rfl (CU_fr hW gcu f4548 rfl hcu8))
      have h4605 : CY T H4571 cu (d8 0 3) g8 (H cu 17) := (CY_fr w4547 gcu f4576 rfl (CY_fr hW gcu f4548 rfl h4536))
      have k4606 : H4571 x 3 = H x 3 := ((f4576 x 3 _ gx rfl).trans (f4548 x 3 _ gx rfl))
      have q4607 : H4571 x 3 = (ce8 : Int) := k4606.trans ece8
      have h4608 : HDR T H4571 ce8  := (HDR_fr w4547 gce8 f4576 rfl (HDR_fr hW gce8 f4548 rfl hhdr8))
      have h4609 : RY T H4571 m (d8 0 3) g8 (H m 32) := (RY_fr w4547 gm f4576 rfl (RY_fr hW gm f4548 rfl h4537))
      have h4610 : RB T H4571 m e8 d8 := (RB_fr w4547 gm f4576 rfl h4567)
      exact WL.loc hX (by simp) (next T H4571 ⟨⟨w4575, g0, gx, gm, go, by omega, by omega⟩, ⟨_, tc, tm, cu, dr, _, _, _, _, _, ce8, q4589, gtc, h4597, q4591, gtm, h4598, q4593, gcu, q4595, gdr, h4599, h4600, h4601, h4602, h4603, hC1, hC2, h4604, h4610, (h4605).1, (h4609).1, hE, hZ, (by omega), (by assumption), (by omega), (by first | assumption | exact SG_0), q4607, gce8, h4596, h4608, a4581, gm⟩, by omega, by omega⟩ (by omega) (by omega))
    · refine wl_of hX hb cL_1097 (rw_iconst (pc' := 1098) rfl ?_)
      refine wl_of hX hb cL_1098 (rw_goto (p1 := 1102) (by decide) ?_)
      have k4611 : wKI H4543 m = wKI H m := (wKI_fr hW gm f4548 rfl)
      have k4612 : H4543 x 9 = H x 9 := (f4548 x 9 _ gx rfl)
      have k4613 : H4543 m 6 = H m 6 := (f4548 m 6 _ gm rfl)
      have k4614 : H4543 x 11 = H x 11 := (f4548 x 11 _ gx rfl)
      have k4615 : H4543 m 13 = H m 13 := (f4548 m 13 _ gm rfl)
      have k4616 : H4543 x 8 = H x 8 := (f4548 x 8 _ gx rfl)
      have k4617 : H4543 m 3 = H m 3 := (f4548 m 3 _ gm rfl)
      rw [show H4543 0 ((i + 1).toNat) = H 0 ((i + 1).toNat) by omega]
      have h4618 : RB T H4543 m e8 d8 := (RB_fr hW gm f4548 rfl hrb8)
      have h4619 : KNN T H4543 m e8 d8 := (KNN_fr hW gm f4548 rfl hknn8)
      refine wl_of hX hb cL_1102 (xc_V (pc' := 1105) (r := m) (as := [vI (H 0 ((i + 1).toNat)), vI 1]) (st := []) (lm_11_142) rfl rfl (Nat.le_of_ble_eq_true rfl) w4547 gm sh_42 (by decide) rfl (by decide) (u_263 (e := e8) (d := d8) w4547 gm ⟨by omega, by omega⟩ ⟨by decide, by decide⟩ (by omega) (by assumption) (by assumption) (by assumption) (by assumption) h4618 h4619) (fun R4620 T4621 H4622 p4623 => ?_))
      obtain ⟨e4624, w4626, f4627, z4628, e4625, b4629, p4630⟩ := p4623
      subst e4624
      subst e4625
      obtain ⟨a4631, a4632⟩ := p4630
      show WL _ _ _ _ 1105 [(4, vI i), (3, .ref o), (2, .ref m), (1, .ref x), (0, .ref 0)] [vI z4628] _ H4622
      refine wl_of hX hb cL_1105 (rw_pop (pc' := 1106) rfl rfl ?_)
      refine wl_of hX hb cL_1106 (rw_goto (p1 := 1653) (by decide) ?_)
      have k4633 : H4622 x 9 = H4543 x 9 := (f4627 x 9 _ gx rfl)
      have k4634 : H4622 m 6 = H4543 m 6 := (f4627 m 6 _ gm rfl)
      have k4635 : H4622 x 11 = H4543 x 11 := (f4627 x 11 _ gx rfl)
      have k4636 : H4622 m 13 = H4543 m 13 := (f4627 m 13 _ gm rfl)
      have k4637 : H4622 x 8 = H4543 x 8 := (f4627 x 8 _ gx rfl)
      have k4638 : H4622 m 3 = H4543 m 3 := (f4627 m 3 _ gm rfl)
      have k4639 : H4622 x 0 = H x 0 := ((f4627 x 0 _ gx rfl).trans (f4548 x 0 _ gx rfl))
      have q4640 : H4622 x 0 = (tc : Int) := k4639.trans e0
      have k4641 : H4622 m 5 = H m 5 := ((f4627 m 5 _ gm rfl).trans (f4548 m 5 _ gm rfl))
      have q4642 : H4622 m 5 = (tm : Int) := k4641.trans em
      have k4643 : H4622 x 6 = H x 6 := ((f4627 x 6 _ gx rfl).trans (f4548 x 6 _ gx rfl))
      have q4644 : H4622 x 6 = (cu : Int) := k4643.trans ecu
      have k4645 : H4622 x 7 = H x 7 := ((f4627 x 7 _ gx rfl).trans (f4548 x 7 _ gx rfl))
      have q4646 : H4622 x 7 = (dr : Int) := k4645.trans edr
      have h4647 : CEN T H4622 ce8 e8 d8 := (CEN_fr w4547 gce8 f4627 rfl p4551)
      have h4648 : TP T H4622 tc B := (TP_fr w4547 gtc f4627 rfl (TP_fr hW gtc f4548 rfl htc))
      have h4649 : TM T H4622 tm B := (TM_fr w4547 gtm f4627 rfl (TM_fr hW gtm f4548 rfl htm))
      have h4650 : DD T H4622 cu  := (DD_fr w4547 gcu f4627 rfl (DD_fr hW gcu f4548 rfl hcu))
      have h4651 : DD T H4622 dr  := (DD_fr w4547 gdr f4627 rfl (DD_fr hW gdr f4548 rfl hdr))
      have h4652 : DE T H4622 cu  := (DE_fr w4547 gcu f4627 rfl (DE_fr hW gcu f4548 rfl hdec))
      have h4653 : DE T H4622 dr  := (DE_fr w4547 gdr f4627 rfl (DE_fr hW gdr f4548 rfl hded))
      have h4654 : SP T H4622 x C8 := (SP_fr w4547 gx f4627 rfl (SP_fr hW gx f4548 rfl hsp))
      have h4655 : CU T H4622 cu e8 d8 n8 := (CU_fr w4547 gcu f4627 rfl (CU_fr hW gcu f4548 rfl hcu8))
      have h4656 : CY T H4622 cu (d8 0 3) g8 (H cu 17) := (CY_fr w4547 gcu f4627 rfl (CY_fr hW gcu f4548 rfl h4536))
      have k4657 : H4622 x 3 = H x 3 := ((f4627 x 3 _ gx rfl).trans (f4548 x 3 _ gx rfl))
      have q4658 : H4622 x 3 = (ce8 : Int) := k4657.trans ece8
      have h4659 : HDR T H4622 ce8  := (HDR_fr w4547 gce8 f4627 rfl (HDR_fr hW gce8 f4548 rfl hhdr8))
      have h4660 : RY T H4622 m (d8 0 3) g8 (H m 32) := (RY_fr w4547 gm f4627 rfl (RY_fr hW gm f4548 rfl h4537))
      have h4661 : RB T H4622 m e8 d8 := (RB_fr w4547 gm f4627 rfl h4618)
      exact WL.loc hX (by simp) (next T H4622 ⟨⟨w4626, g0, gx, gm, go, by omega, by omega⟩, ⟨_, tc, tm, cu, dr, _, _, _, _, _, ce8, q4640, gtc, h4648, q4642, gtm, h4649, q4644, gcu, q4646, gdr, h4650, h4651, h4652, h4653, h4654, hC1, hC2, h4655, h4661, (h4656).1, (h4660).1, hE, hZ, (by omega), (by assumption), (by omega), (by first | assumption | exact SG_0), q4658, gce8, h4647, h4659, a4632, gm⟩, by omega, by omega⟩ (by omega) (by omega))
