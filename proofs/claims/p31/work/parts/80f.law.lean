/-! THE LAW, GONE ON WITH (own work) -/
set_option maxHeartbeats 4000000 in
theorem wl_c30 {kt : Nat → Option mc_E} {CB SB : Nat} {X : mc_S → Prop} {T : wq_T} {H : wq_H} {Len x m o : Nat} {i : Int} (hX : wlX kt CB SB X) (hb : T.2.1 ≤ CB ∧ T.2.2.1 ≤ SB) (hI : wlJ Len x m o T H) (hL : Len ≤ 3072) (hi : 0 ≤ i ∧ i + 6 ≤ Len) (hb2 : T.2.1 + 20 ≤ CB ∧ T.2.2.1 + 500 ≤ SB)  (next : ∀ T' H', wlJ Len x m o T' H' → T'.2.1 ≤ T.2.1 + 20 → T'.2.2.1 ≤ T.2.2.1 + 500 → WL kt CB SB X 1653 (wlL i x m o) [] T' H') : WL kt CB SB X 1162 (wlL i x m o) [] T H := by
  obtain ⟨⟨hW, g0, gx, gm, go, hK, hr⟩, hXI, hY1, hY2⟩ := hI
  refine wl_of hX hb cL_1162 (rw_aload_n (pc' := 1163) (v := .ref x) rfl rfl rfl ?_)
  obtain ⟨B, tc, tm, cu, dr, C8, e8, d8, n8, g8, ce8, e0, gtc, htc, em, gtm, htm, ecu, gcu, edr, gdr, hcu, hdr, hdec, hded, hsp, hC1, hC2, hcu8, hrb8, hcg8, hmn8, hE, hZ, hn8, hXA, hV8, hSG, ece8, gce8, hcen8, hhdr8, hknn8, -⟩ := hXI
  have hN3 := RB_n3 hrb8
  have hE13 : ∀ h : Nat, h < 24 → 0 ≤ e8 13 h ∧ e8 13 h ≤ 100 := fun k hk => by
    obtain ⟨s, h1, h2, h3⟩ := hcu8.1.2.2.1
    exact ⟨(h3 k hk).1, (h3 k hk).2.1⟩
  have hXW := hXA.1
  have hXN := hXA.2
  have hE0 : e8 0 3 = d8 0 3 ∧ e8 0 0 = d8 0 0 := by
    have h := hE 0 (by decide)
    exact ⟨congrFun h 3, congrFun h 0⟩
  have u4870 := CU_k hcu8
  have h4871 : CY T H cu (d8 0 3) g8 (H cu 17) := ⟨hcg8, rfl⟩
  have h4872 : RY T H m (d8 0 3) g8 (H m 32) := ⟨hmn8, rfl⟩
  obtain ⟨t9, ht9⟩ : ∃ t : Int, t = H x 9 := ⟨_, rfl⟩
  obtain ⟨r4873, q4874, g4875⟩ := hW.ref gx (t' := 6) (n := 13) (j := 2) (p := 0) (q := 0) rfl (by decide) rfl
  refine wl_of hX hb cL_1163 (xc_V (pc' := 1166) (r := x) (as := []) (st := []) (lm_11_147) rfl rfl (Nat.le_of_ble_eq_true rfl) hW gx sh_1 (by decide) rfl (by decide) (u_120 (e := e8) (d := d8) (n := n8) hW gx ecu gcu q4874 g4875 ece8 gce8 (by assumption) (by assumption) (by omega) (by omega) (by omega) (by omega) hcu8 hcen8 hhdr8) (fun R4876 T4877 H4878 p4879 => ?_))
  obtain ⟨e4880, w4882, f4883, z4884, e4881, b4885, p4886⟩ := p4879
  subst e4880
  subst e4881
  show WL _ _ _ _ 1166 [(4, vI i), (3, .ref o), (2, .ref m), (1, .ref x), (0, .ref 0)] [vI z4884] _ H4878
  refine wl_of hX hb cL_1166 (rw_pop (pc' := 1167) rfl rfl ?_)
  refine wl_of hX hb cL_1167 (rw_aload_n (pc' := 1168) (v := .ref m) rfl rfl rfl ?_)
  have k4888 : wKI H4878 m = wKI H m := (wKI_fr hW gm f4883 rfl)
  have k4889 : H4878 x 9 = H x 9 := (f4883 x 9 _ gx rfl)
  have k4890 : H4878 m 6 = H m 6 := (f4883 m 6 _ gm rfl)
  have k4891 : H4878 x 11 = H x 11 := (f4883 x 11 _ gx rfl)
  have k4892 : H4878 m 13 = H m 13 := (f4883 m 13 _ gm rfl)
  have k4893 : H4878 x 8 = H x 8 := (f4883 x 8 _ gx rfl)
  have k4894 : H4878 m 3 = H m 3 := (f4883 m 3 _ gm rfl)
  have h4895 : RB T H4878 m e8 d8 := (RB_fr hW gm f4883 rfl hrb8)
  have h4896 : KNN T H4878 m e8 d8 := (KNN_fr hW gm f4883 rfl hknn8)
  refine wl_of hX hb cL_1168 (xc_V (pc' := 1171) (r := m) (as := []) (st := []) (lm_11_150) rfl rfl (Nat.le_of_ble_eq_true rfl) w4882 gm sh_42 (by decide) rfl (by decide) (u_266 (e := e8) (d := d8) w4882 gm (by omega) (by assumption) (by assumption) (by assumption) (by assumption) h4895 h4896) (fun R4897 T4898 H4899 p4900 => ?_))
  obtain ⟨e4901, w4903, f4904, z4905, e4902, b4906, p4907⟩ := p4900
  subst e4901
  subst e4902
  obtain ⟨a4908, a4909⟩ := p4907
  show WL _ _ _ _ 1171 [(4, vI i), (3, .ref o), (2, .ref m), (1, .ref x), (0, .ref 0)] [vI z4905] _ H4899
  refine wl_of hX hb cL_1171 (rw_pop (pc' := 1172) rfl rfl ?_)
  refine wl_of hX hb cL_1172 (rw_goto (p1 := 1653) (by decide) ?_)
  have k4910 : H4899 x 9 = H4878 x 9 := (f4904 x 9 _ gx rfl)
  have k4911 : H4899 m 6 = H4878 m 6 := (f4904 m 6 _ gm rfl)
  have k4912 : H4899 x 11 = H4878 x 11 := (f4904 x 11 _ gx rfl)
  have k4913 : H4899 m 13 = H4878 m 13 := (f4904 m 13 _ gm rfl)
  have k4914 : H4899 x 8 = H4878 x 8 := (f4904 x 8 _ gx rfl)
  have k4915 : H4899 m 3 = H4878 m 3 := (f4904 m 3 _ gm rfl)
  have k4916 : H4899 x 0 = H x 0 := ((f4904 x 0 _ gx rfl).trans (f4883 x 0 _ gx rfl))
  have q4917 : H4899 x 0 = (tc : Int) := k4916.trans e0
  have k4918 : H4899 m 5 = H m 5 := ((f4904 m 5 _ gm rfl).trans (f4883 m 5 _ gm rfl))
  have q4919 : H4899 m 5 = (tm : Int) := k4918.trans em
  have k4920 : H4899 x 6 = H x 6 := ((f4904 x 6 _ gx rfl).trans (f4883 x 6 _ gx rfl))
  have q4921 : H4899 x 6 = (cu : Int) := k4920.trans ecu
  have k4922 : H4899 x 7 = H x 7 := ((f4904 x 7 _ gx rfl).trans (f4883 x 7 _ gx rfl))
  have q4923 : H4899 x 7 = (dr : Int) := k4922.trans edr
  have h4924 : CEN T H4899 ce8 e8 d8 := (CEN_fr w4882 gce8 f4904 rfl p4886)
  have h4925 : TP T H4899 tc B := (TP_fr w4882 gtc f4904 rfl (TP_fr hW gtc f4883 rfl htc))
  have h4926 : TM T H4899 tm B := (TM_fr w4882 gtm f4904 rfl (TM_fr hW gtm f4883 rfl htm))
  have h4927 : DD T H4899 cu  := (DD_fr w4882 gcu f4904 rfl (DD_fr hW gcu f4883 rfl hcu))
  have h4928 : DD T H4899 dr  := (DD_fr w4882 gdr f4904 rfl (DD_fr hW gdr f4883 rfl hdr))
  have h4929 : DE T H4899 cu  := (DE_fr w4882 gcu f4904 rfl (DE_fr hW gcu f4883 rfl hdec))
  have h4930 : DE T H4899 dr  := (DE_fr w4882 gdr f4904 rfl (DE_fr hW gdr f4883 rfl hded))
  have h4931 : SP T H4899 x C8 := (SP_fr w4882 gx f4904 rfl (SP_fr hW gx f4883 rfl hsp))
  have h4932 : CU T H4899 cu e8 d8 n8 := (CU_fr w4882 gcu f4904 rfl (CU_fr hW gcu f4883 rfl hcu8))
  have h4933 : CY T H4899 cu (d8 0 3) g8 (H cu 17) := (CY_fr w4882 gcu f4904 rfl (CY_fr hW gcu f4883 rfl h4871))
  have k4934 : H4899 x 3 = H x 3 := ((f4904 x 3 _ gx rfl).trans (f4883 x 3 _ gx rfl))
  have q4935 : H4899 x 3 = (ce8 : Int) := k4934.trans ece8
  have h4936 : HDR T H4899 ce8  := (HDR_fr w4882 gce8 f4904 rfl (HDR_fr hW gce8 f4883 rfl hhdr8))
  have h4937 : RY T H4899 m (d8 0 3) g8 (H m 32) := (RY_fr w4882 gm f4904 rfl (RY_fr hW gm f4883 rfl h4872))
  have h4938 : RB T H4899 m e8 d8 := (RB_fr w4882 gm f4904 rfl h4895)
  exact WL.loc hX (by simp) (next T H4899 ⟨⟨w4903, g0, gx, gm, go, by omega, by omega⟩, ⟨_, tc, tm, cu, dr, _, _, _, _, _, ce8, q4917, gtc, h4925, q4919, gtm, h4926, q4921, gcu, q4923, gdr, h4927, h4928, h4929, h4930, h4931, hC1, hC2, h4932, h4938, (h4933).1, (h4937).1, hE, hZ, (by omega), (by assumption), (by omega), (by first | assumption | exact SG_0), q4935, gce8, h4924, h4936, a4909, gm⟩, by omega, by omega⟩ (by omega) (by omega))
set_option maxHeartbeats 4000000 in
theorem wl_c31 {kt : Nat → Option mc_E} {CB SB : Nat} {X : mc_S → Prop} {T : wq_T} {H : wq_H} {Len x m o : Nat} {i : Int} (hX : wlX kt CB SB X) (hb : T.2.1 ≤ CB ∧ T.2.2.1 ≤ SB) (hI : wlJ Len x m o T H) (hL : Len ≤ 3072) (hi : 0 ≤ i ∧ i + 6 ≤ Len) (hb2 : T.2.1 + 20 ≤ CB ∧ T.2.2.1 + 500 ≤ SB)  (next : ∀ T' H', wlJ Len x m o T' H' → T'.2.1 ≤ T.2.1 + 20 → T'.2.2.1 ≤ T.2.2.1 + 500 → WL kt CB SB X 1653 (wlL i x m o) [] T' H') : WL kt CB SB X 1175 (wlL i x m o) [] T H := by
  obtain ⟨⟨hW, g0, gx, gm, go, hK, hr⟩, hXI, hY1, hY2⟩ := hI
  refine wl_of hX hb cL_1175 (rw_aload_n (pc' := 1176) (v := .ref x) rfl rfl rfl ?_)
  refine wl_of hX hb cL_1176 (rw_aload_n (pc' := 1177) (v := .ref 0) rfl rfl rfl ?_)
  refine wl_of hX hb cL_1177 (rw_iload (pc' := 1179) (z := i) rfl rfl ?_)
  refine wl_of hX hb cL_1179 (rw_iconst (pc' := 1180) rfl ?_)
  refine wl_of hX hb cL_1180 (rw_iadd (pc' := 1181) rfl ?_)
  refine wl_of hX hb cL_1181 (xa_I (so := 0) (pc' := 1182) (a := 0) hW g0 (wsh_s _) (by omega) (wty_s _ _) (by omega) (by omega) rfl (fun b4939 b4940 => ?_))
  obtain ⟨B, tc, tm, cu, dr, C8, e8, d8, n8, g8, ce8, e0, gtc, htc, em, gtm, htm, ecu, gcu, edr, gdr, hcu, hdr, hdec, hded, hsp, hC1, hC2, hcu8, hrb8, hcg8, hmn8, hE, hZ, hn8, hXA, hV8, hSG, ece8, gce8, hcen8, hhdr8, hknn8, -⟩ := hXI
  have hN3 := RB_n3 hrb8
  have hE13 : ∀ h : Nat, h < 24 → 0 ≤ e8 13 h ∧ e8 13 h ≤ 100 := fun k hk => by
    obtain ⟨s, h1, h2, h3⟩ := hcu8.1.2.2.1
    exact ⟨(h3 k hk).1, (h3 k hk).2.1⟩
  have hXW := hXA.1
  have hXN := hXA.2
  have hE0 : e8 0 3 = d8 0 3 ∧ e8 0 0 = d8 0 0 := by
    have h := hE 0 (by decide)
    exact ⟨congrFun h 3, congrFun h 0⟩
  have u4941 := CU_k hcu8
  have h4942 : CY T H cu (d8 0 3) g8 (H cu 17) := ⟨hcg8, rfl⟩
  have h4943 : RY T H m (d8 0 3) g8 (H m 32) := ⟨hmn8, rfl⟩
  obtain ⟨t9, ht9⟩ : ∃ t : Int, t = H x 9 := ⟨_, rfl⟩
  obtain ⟨y9, hy9⟩ : ∃ y : Int, y = H 0 ((i + 1).toNat) := ⟨_, rfl⟩
  obtain ⟨r4944, q4945, g4946⟩ := hW.ref gx (t' := 6) (n := 13) (j := 2) (p := 0) (q := 0) rfl (by decide) rfl
  refine wl_of hX hb cL_1182 (xc_V (pc' := 1185) (r := x) (as := [vI (H 0 ((i + 1).toNat))]) (st := []) (lm_11_151) rfl rfl (Nat.le_of_ble_eq_true rfl) hW gx sh_1 (by decide) rfl (by decide) (u_130 (e := e8) (d := d8) (n := n8) hW gx ⟨by omega, by omega⟩ ecu gcu q4945 g4946 ece8 gce8 (by assumption) (by assumption) (by omega) (by omega) (by omega) (by omega) hcu8 hcen8 hhdr8) (fun R4947 T4948 H4949 p4950 => ?_))
  obtain ⟨e4951, w4953, f4954, z4955, e4952, b4956, p4957⟩ := p4950
  subst e4951
  subst e4952
  show WL _ _ _ _ 1185 [(4, vI i), (3, .ref o), (2, .ref m), (1, .ref x), (0, .ref 0)] [vI z4955] _ H4949
  refine wl_of hX hb cL_1185 (rw_pop (pc' := 1186) rfl rfl ?_)
  refine wl_of hX hb cL_1186 (rw_aload_n (pc' := 1187) (v := .ref m) rfl rfl rfl ?_)
  refine wl_of hX hb cL_1187 (rw_aload_n (pc' := 1188) (v := .ref 0) rfl rfl rfl ?_)
  refine wl_of hX hb cL_1188 (rw_iload (pc' := 1190) (z := i) rfl rfl ?_)
  refine wl_of hX hb cL_1190 (rw_iconst (pc' := 1191) rfl ?_)
  refine wl_of hX hb cL_1191 (rw_iadd (pc' := 1192) rfl ?_)
  have k4961 : H4949 0 ((i + 1).toNat) = H 0 ((i + 1).toNat) := (f4954 0 ((i + 1).toNat) _ g0 (wmem_s rfl))
  refine wl_of hX hb cL_1192 (xa_I (so := 0) (pc' := 1193) (a := 0) w4953 g0 (wsh_s _) (by omega) (wty_s _ _) (by omega) (by omega) rfl (fun b4959 b4960 => ?_))
  have k4962 : wKI H4949 m = wKI H m := (wKI_fr hW gm f4954 rfl)
  have k4963 : H4949 x 9 = H x 9 := (f4954 x 9 _ gx rfl)
  have k4964 : H4949 m 6 = H m 6 := (f4954 m 6 _ gm rfl)
  have k4965 : H4949 x 11 = H x 11 := (f4954 x 11 _ gx rfl)
  have k4966 : H4949 m 13 = H m 13 := (f4954 m 13 _ gm rfl)
  have k4967 : H4949 x 8 = H x 8 := (f4954 x 8 _ gx rfl)
  have k4968 : H4949 m 3 = H m 3 := (f4954 m 3 _ gm rfl)
  rw [show H4949 0 ((i + 1).toNat) = H 0 ((i + 1).toNat) by omega]
  have h4969 : RB T H4949 m e8 d8 := (RB_fr hW gm f4954 rfl hrb8)
  have h4970 : KNN T H4949 m e8 d8 := (KNN_fr hW gm f4954 rfl hknn8)
  refine wl_of hX hb cL_1193 (xc_V (pc' := 1196) (r := m) (as := [vI (H 0 ((i + 1).toNat))]) (st := []) (lm_11_154) rfl rfl (Nat.le_of_ble_eq_true rfl) w4953 gm sh_42 (by decide) rfl (by decide) (u_271 (e := e8) (d := d8) w4953 gm ⟨by omega, by omega⟩ (by omega) (by assumption) (by assumption) (by assumption) (by assumption) h4969 h4970) (fun R4971 T4972 H4973 p4974 => ?_))
  obtain ⟨e4975, w4977, f4978, z4979, e4976, b4980, p4981⟩ := p4974
  subst e4975
  subst e4976
  obtain ⟨a4982, a4983⟩ := p4981
  show WL _ _ _ _ 1196 [(4, vI i), (3, .ref o), (2, .ref m), (1, .ref x), (0, .ref 0)] [vI z4979] _ H4973
  refine wl_of hX hb cL_1196 (rw_pop (pc' := 1197) rfl rfl ?_)
  refine wl_of hX hb cL_1197 (rw_goto (p1 := 1653) (by decide) ?_)
  have k4984 : H4973 x 9 = H4949 x 9 := (f4978 x 9 _ gx rfl)
  have k4985 : H4973 m 6 = H4949 m 6 := (f4978 m 6 _ gm rfl)
  have k4986 : H4973 x 11 = H4949 x 11 := (f4978 x 11 _ gx rfl)
  have k4987 : H4973 m 13 = H4949 m 13 := (f4978 m 13 _ gm rfl)
  have k4988 : H4973 x 8 = H4949 x 8 := (f4978 x 8 _ gx rfl)
  have k4989 : H4973 m 3 = H4949 m 3 := (f4978 m 3 _ gm rfl)
  have k4990 : H4973 x 0 = H x 0 := ((f4978 x 0 _ gx rfl).trans (f4954 x 0 _ gx rfl))
  have q4991 : H4973 x 0 = (tc : Int) := k4990.trans e0
  have k4992 : H4973 m 5 = H m 5 := ((f4978 m 5 _ gm rfl).trans (f4954 m 5 _ gm rfl))
  have q4993 : H4973 m 5 = (tm : Int) := k4992.trans em
  have k4994 : H4973 x 6 = H x 6 := ((f4978 x 6 _ gx rfl).trans (f4954 x 6 _ gx rfl))
  have q4995 : H4973 x 6 = (cu : Int) := k4994.trans ecu
  have k4996 : H4973 x 7 = H x 7 := ((f4978 x 7 _ gx rfl).trans (f4954 x 7 _ gx rfl))
  have q4997 : H4973 x 7 = (dr : Int) := k4996.trans edr
  have h4998 : CEN T H4973 ce8 e8 d8 := (CEN_fr w4953 gce8 f4978 rfl p4957)
  have h4999 : TP T H4973 tc B := (TP_fr w4953 gtc f4978 rfl (TP_fr hW gtc f4954 rfl htc))
  have h5000 : TM T H4973 tm B := (TM_fr w4953 gtm f4978 rfl (TM_fr hW gtm f4954 rfl htm))
  have h5001 : DD T H4973 cu  := (DD_fr w4953 gcu f4978 rfl (DD_fr hW gcu f4954 rfl hcu))
  have h5002 : DD T H4973 dr  := (DD_fr w4953 gdr f4978 rfl (DD_fr hW gdr f4954 rfl hdr))
  have h5003 : DE T H4973 cu  := (DE_fr w4953 gcu f4978 rfl (DE_fr hW gcu f4954 rfl hdec))
  have h5004 : DE T H4973 dr  := (DE_fr w4953 gdr f4978 rfl (DE_fr hW gdr f4954 rfl hded))
  have h5005 : SP T H4973 x C8 := (SP_fr w4953 gx f4978 rfl (SP_fr hW gx f4954 rfl hsp))
  have h5006 : CU T H4973 cu e8 d8 n8 := (CU_fr w4953 gcu f4978 rfl (CU_fr hW gcu f4954 rfl hcu8))
  have h5007 : CY T H4973 cu (d8 0 3) g8 (H cu 17) := (CY_fr w4953 gcu f4978 rfl (CY_fr hW gcu f4954 rfl h4942))
  have k5008 : H4973 x 3 = H x 3 := ((f4978 x 3 _ gx rfl).trans (f4954 x 3 _ gx rfl))
  have q5009 : H4973 x 3 = (ce8 : Int) := k5008.trans ece8
  have h5010 : HDR T H4973 ce8  := (HDR_fr w4953 gce8 f4978 rfl (HDR_fr hW gce8 f4954 rfl hhdr8))
  have h5011 : RY T H4973 m (d8 0 3) g8 (H m 32) := (RY_fr w4953 gm f4978 rfl (RY_fr hW gm f4954 rfl h4943))
  have h5012 : RB T H4973 m e8 d8 := (RB_fr w4953 gm f4978 rfl h4969)
  exact WL.loc hX (by simp) (next T H4973 ⟨⟨w4977, g0, gx, gm, go, by omega, by omega⟩, ⟨_, tc, tm, cu, dr, _, _, _, _, _, ce8, q4991, gtc, h4999, q4993, gtm, h5000, q4995, gcu, q4997, gdr, h5001, h5002, h5003, h5004, h5005, hC1, hC2, h5006, h5012, (h5007).1, (h5011).1, hE, hZ, (by omega), (by assumption), (by omega), (by first | assumption | exact SG_0), q5009, gce8, h4998, h5010, a4983, gm⟩, by omega, by omega⟩ (by omega) (by omega))
set_option maxHeartbeats 4000000 in
theorem wl_c32 {kt : Nat → Option mc_E} {CB SB : Nat} {X : mc_S → Prop} {T : wq_T} {H : wq_H} {Len x m o : Nat} {i : Int} (hX : wlX kt CB SB X) (hb : T.2.1 ≤ CB ∧ T.2.2.1 ≤ SB) (hI : wlJ Len x m o T H) (hL : Len ≤ 3072) (hi : 0 ≤ i ∧ i + 6 ≤ Len) (hb2 : T.2.1 + 20 ≤ CB ∧ T.2.2.1 + 500 ≤ SB)  (next : ∀ T' H', wlJ Len x m o T' H' → T'.2.1 ≤ T.2.1 + 20 → T'.2.2.1 ≤ T.2.2.1 + 500 → WL kt CB SB X 1653 (wlL i x m o) [] T' H') : WL kt CB SB X 1200 (wlL i x m o) [] T H := by
  obtain ⟨⟨hW, g0, gx, gm, go, hK, hr⟩, hXI, hY1, hY2⟩ := hI
  refine wl_of hX hb cL_1200 (rw_aload_n (pc' := 1201) (v := .ref x) rfl rfl rfl ?_)
  refine wl_of hX hb cL_1201 (rw_aload_n (pc' := 1202) (v := .ref 0) rfl rfl rfl ?_)
  refine wl_of hX hb cL_1202 (rw_iload (pc' := 1204) (z := i) rfl rfl ?_)
  refine wl_of hX hb cL_1204 (rw_iconst (pc' := 1205) rfl ?_)
  refine wl_of hX hb cL_1205 (rw_iadd (pc' := 1206) rfl ?_)
  refine wl_of hX hb cL_1206 (xa_I (so := 0) (pc' := 1207) (a := 0) hW g0 (wsh_s _) (by omega) (wty_s _ _) (by omega) (by omega) rfl (fun b5013 b5014 => ?_))
  obtain ⟨B, tc, tm, cu, dr, C8, e8, d8, n8, g8, ce8, e0, gtc, htc, em, gtm, htm, ecu, gcu, edr, gdr, hcu, hdr, hdec, hded, hsp, hC1, hC2, hcu8, hrb8, hcg8, hmn8, hE, hZ, hn8, hXA, hV8, hSG, ece8, gce8, hcen8, hhdr8, hknn8, -⟩ := hXI
  have hN3 := RB_n3 hrb8
  have hE13 : ∀ h : Nat, h < 24 → 0 ≤ e8 13 h ∧ e8 13 h ≤ 100 := fun k hk => by
    obtain ⟨s, h1, h2, h3⟩ := hcu8.1.2.2.1
    exact ⟨(h3 k hk).1, (h3 k hk).2.1⟩
  have hXW := hXA.1
  have hXN := hXA.2
  have hE0 : e8 0 3 = d8 0 3 ∧ e8 0 0 = d8 0 0 := by
    have h := hE 0 (by decide)
    exact ⟨congrFun h 3, congrFun h 0⟩
  have u5015 := CU_k hcu8
  have h5016 : CY T H cu (d8 0 3) g8 (H cu 17) := ⟨hcg8, rfl⟩
  have h5017 : RY T H m (d8 0 3) g8 (H m 32) := ⟨hmn8, rfl⟩
  obtain ⟨t9, ht9⟩ : ∃ t : Int, t = H x 9 := ⟨_, rfl⟩
  obtain ⟨y9, hy9⟩ : ∃ y : Int, y = H 0 ((i + 1).toNat) := ⟨_, rfl⟩
  obtain ⟨r5018, q5019, g5020⟩ := hW.ref gx (t' := 6) (n := 13) (j := 2) (p := 0) (q := 0) rfl (by decide) rfl
  refine wl_of hX hb cL_1207 (xc_V (pc' := 1210) (r := x) (as := [vI (H 0 ((i + 1).toNat))]) (st := []) (lm_11_155) rfl rfl (Nat.le_of_ble_eq_true rfl) hW gx sh_1 (by decide) rfl (by decide) (u_132 (e := e8) (d := d8) (n := n8) hW gx ⟨by omega, by omega⟩ ecu gcu q5019 g5020 ece8 gce8 (by assumption) (by assumption) (by omega) (by omega) (by omega) (by omega) hcu8 hcen8 hhdr8) (fun R5021 T5022 H5023 p5024 => ?_))
  obtain ⟨e5025, w5027, f5028, z5029, e5026, b5030, p5031⟩ := p5024
  subst e5025
  subst e5026
  show WL _ _ _ _ 1210 [(4, vI i), (3, .ref o), (2, .ref m), (1, .ref x), (0, .ref 0)] [vI z5029] _ H5023
  refine wl_of hX hb cL_1210 (rw_pop (pc' := 1211) rfl rfl ?_)
  refine wl_of hX hb cL_1211 (rw_aload_n (pc' := 1212) (v := .ref m) rfl rfl rfl ?_)
  refine wl_of hX hb cL_1212 (rw_aload_n (pc' := 1213) (v := .ref 0) rfl rfl rfl ?_)
  refine wl_of hX hb cL_1213 (rw_iload (pc' := 1215) (z := i) rfl rfl ?_)
  refine wl_of hX hb cL_1215 (rw_iconst (pc' := 1216) rfl ?_)
  refine wl_of hX hb cL_1216 (rw_iadd (pc' := 1217) rfl ?_)
  have k5035 : H5023 0 ((i + 1).toNat) = H 0 ((i + 1).toNat) := (f5028 0 ((i + 1).toNat) _ g0 (wmem_s rfl))
  refine wl_of hX hb cL_1217 (xa_I (so := 0) (pc' := 1218) (a := 0) w5027 g0 (wsh_s _) (by omega) (wty_s _ _) (by omega) (by omega) rfl (fun b5033 b5034 => ?_))
  have k5036 : wKI H5023 m = wKI H m := (wKI_fr hW gm f5028 rfl)
  have k5037 : H5023 x 9 = H x 9 := (f5028 x 9 _ gx rfl)
  have k5038 : H5023 m 6 = H m 6 := (f5028 m 6 _ gm rfl)
  have k5039 : H5023 x 11 = H x 11 := (f5028 x 11 _ gx rfl)
  have k5040 : H5023 m 13 = H m 13 := (f5028 m 13 _ gm rfl)
  have k5041 : H5023 x 8 = H x 8 := (f5028 x 8 _ gx rfl)
  have k5042 : H5023 m 3 = H m 3 := (f5028 m 3 _ gm rfl)
  rw [show H5023 0 ((i + 1).toNat) = H 0 ((i + 1).toNat) by omega]
  have h5043 : RB T H5023 m e8 d8 := (RB_fr hW gm f5028 rfl hrb8)
  have h5044 : KNN T H5023 m e8 d8 := (KNN_fr hW gm f5028 rfl hknn8)
  refine wl_of hX hb cL_1218 (xc_V (pc' := 1221) (r := m) (as := [vI (H 0 ((i + 1).toNat))]) (st := []) (lm_11_158) rfl rfl (Nat.le_of_ble_eq_true rfl) w5027 gm sh_42 (by decide) rfl (by decide) (u_272 (e := e8) (d := d8) w5027 gm ⟨by omega, by omega⟩ (by omega) (by assumption) (by assumption) (by assumption) (by assumption) h5043 h5044) (fun R5045 T5046 H5047 p5048 => ?_))
  obtain ⟨e5049, w5051, f5052, z5053, e5050, b5054, p5055⟩ := p5048
  subst e5049
  subst e5050
  obtain ⟨a5056, a5057⟩ := p5055
  show WL _ _ _ _ 1221 [(4, vI i), (3, .ref o), (2, .ref m), (1, .ref x), (0, .ref 0)] [vI z5053] _ H5047
  refine wl_of hX hb cL_1221 (rw_pop (pc' := 1222) rfl rfl ?_)
  refine wl_of hX hb cL_1222 (rw_goto (p1 := 1653) (by decide) ?_)
  have k5058 : H5047 x 9 = H5023 x 9 := (f5052 x 9 _ gx rfl)
  have k5059 : H5047 m 6 = H5023 m 6 := (f5052 m 6 _ gm rfl)
  have k5060 : H5047 x 11 = H5023 x 11 := (f5052 x 11 _ gx rfl)
  have k5061 : H5047 m 13 = H5023 m 13 := (f5052 m 13 _ gm rfl)
  have k5062 : H5047 x 8 = H5023 x 8 := (f5052 x 8 _ gx rfl)
  have k5063 : H5047 m 3 = H5023 m 3 := (f5052 m 3 _ gm rfl)
  have k5064 : H5047 x 0 = H x 0 := ((f5052 x 0 _ gx rfl).trans (f5028 x 0 _ gx rfl))
  have q5065 : H5047 x 0 = (tc : Int) := k5064.trans e0
  have k5066 : H5047 m 5 = H m 5 := ((f5052 m 5 _ gm rfl).trans (f5028 m 5 _ gm rfl))
  have q5067 : H5047 m 5 = (tm : Int) := k5066.trans em
  have k5068 : H5047 x 6 = H x 6 := ((f5052 x 6 _ gx rfl).trans (f5028 x 6 _ gx rfl))
  have q5069 : H5047 x 6 = (cu : Int) := k5068.trans ecu
  have k5070 : H5047 x 7 = H x 7 := ((f5052 x 7 _ gx rfl).trans (f5028 x 7 _ gx rfl))
  have q5071 : H5047 x 7 = (dr : Int) := k5070.trans edr
  have h5072 : CEN T H5047 ce8 e8 d8 := (CEN_fr w5027 gce8 f5052 rfl p5031)
  have h5073 : TP T H5047 tc B := (TP_fr w5027 gtc f5052 rfl (TP_fr hW gtc f5028 rfl htc))
  have h5074 : TM T H5047 tm B := (TM_fr w5027 gtm f5052 rfl (TM_fr hW gtm f5028 rfl htm))
  have h5075 : DD T H5047 cu  := (DD_fr w5027 gcu f5052 rfl (DD_fr hW gcu f5028 rfl hcu))
  have h5076 : DD T H5047 dr  := (DD_fr w5027 gdr f5052 rfl (DD_fr hW gdr f5028 rfl hdr))
  have h5077 : DE T H5047 cu  := (DE_fr w5027 gcu f5052 rfl (DE_fr hW gcu f5028 rfl hdec))
  have h5078 : DE T H5047 dr  := (DE_fr w5027 gdr f5052 rfl (DE_fr hW gdr f5028 rfl hded))
  have h5079 : SP T H5047 x C8 := (SP_fr w5027 gx f5052 rfl (SP_fr hW gx f5028 rfl hsp))
  have h5080 : CU T H5047 cu e8 d8 n8 := (CU_fr w5027 gcu f5052 rfl (CU_fr hW gcu f5028 rfl hcu8))
  have h5081 : CY T H5047 cu (d8 0 3) g8 (H cu 17) := (CY_fr w5027 gcu f5052 rfl (CY_fr hW gcu f5028 rfl h5016))
  have k5082 : H5047 x 3 = H x 3 := ((f5052 x 3 _ gx rfl).trans (f5028 x 3 _ gx rfl))
  have q5083 : H5047 x 3 = (ce8 : Int) := k5082.trans ece8
  have h5084 : HDR T H5047 ce8  := (HDR_fr w5027 gce8 f5052 rfl (HDR_fr hW gce8 f5028 rfl hhdr8))
  have h5085 : RY T H5047 m (d8 0 3) g8 (H m 32) := (RY_fr w5027 gm f5052 rfl (RY_fr hW gm f5028 rfl h5017))
  have h5086 : RB T H5047 m e8 d8 := (RB_fr w5027 gm f5052 rfl h5043)
  exact WL.loc hX (by simp) (next T H5047 ⟨⟨w5051, g0, gx, gm, go, by omega, by omega⟩, ⟨_, tc, tm, cu, dr, _, _, _, _, _, ce8, q5065, gtc, h5073, q5067, gtm, h5074, q5069, gcu, q5071, gdr, h5075, h5076, h5077, h5078, h5079, hC1, hC2, h5080, h5086, (h5081).1, (h5085).1, hE, hZ, (by omega), (by assumption), (by omega), (by first | assumption | exact SG_0), q5083, gce8, h5072, h5084, a5057, gm⟩, by omega, by omega⟩ (by omega) (by omega))
set_option maxHeartbeats 4000000 in
theorem wl_c33 {kt : Nat → Option mc_E} {CB SB : Nat} {X : mc_S → Prop} {T : wq_T} {H : wq_H} {Len x m o : Nat} {i : Int} (hX : wlX kt CB SB X) (hb : T.2.1 ≤ CB ∧ T.2.2.1 ≤ SB) (hI : wlJ Len x m o T H) (hL : Len ≤ 3072) (hi : 0 ≤ i ∧ i + 6 ≤ Len) (hb2 : T.2.1 + 20 ≤ CB ∧ T.2.2.1 + 500 ≤ SB)  (next : ∀ T' H', wlJ Len x m o T' H' → T'.2.1 ≤ T.2.1 + 20 → T'.2.2.1 ≤ T.2.2.1 + 500 → WL kt CB SB X 1653 (wlL i x m o) [] T' H') : WL kt CB SB X 1225 (wlL i x m o) [] T H := by
  obtain ⟨⟨hW, g0, gx, gm, go, hK, hr⟩, hXI, hY1, hY2⟩ := hI
  refine wl_of hX hb cL_1225 (rw_aload_n (pc' := 1226) (v := .ref x) rfl rfl rfl ?_)
  refine wl_of hX hb cL_1226 (rw_aload_n (pc' := 1227) (v := .ref 0) rfl rfl rfl ?_)
  refine wl_of hX hb cL_1227 (rw_iload (pc' := 1229) (z := i) rfl rfl ?_)
  refine wl_of hX hb cL_1229 (rw_iconst (pc' := 1230) rfl ?_)
  refine wl_of hX hb cL_1230 (rw_iadd (pc' := 1231) rfl ?_)
  refine wl_of hX hb cL_1231 (xa_I (so := 0) (pc' := 1232) (a := 0) hW g0 (wsh_s _) (by omega) (wty_s _ _) (by omega) (by omega) rfl (fun b5087 b5088 => ?_))
  obtain ⟨B, tc, tm, cu, dr, C8, e8, d8, n8, g8, ce8, e0, gtc, htc, em, gtm, htm, ecu, gcu, edr, gdr, hcu, hdr, hdec, hded, hsp, hC1, hC2, hcu8, hrb8, hcg8, hmn8, hE, hZ, hn8, hXA, hV8, hSG, ece8, gce8, hcen8, hhdr8, hknn8, -⟩ := hXI
  have hN3 := RB_n3 hrb8
  have hE13 : ∀ h : Nat, h < 24 → 0 ≤ e8 13 h ∧ e8 13 h ≤ 100 := fun k hk => by
    obtain ⟨s, h1, h2, h3⟩ := hcu8.1.2.2.1
    exact ⟨(h3 k hk).1, (h3 k hk).2.1⟩
  have hXW := hXA.1
  have hXN := hXA.2
  have hE0 : e8 0 3 = d8 0 3 ∧ e8 0 0 = d8 0 0 := by
    have h := hE 0 (by decide)
    exact ⟨congrFun h 3, congrFun h 0⟩
  have u5089 := CU_k hcu8
  have h5090 : CY T H cu (d8 0 3) g8 (H cu 17) := ⟨hcg8, rfl⟩
  have h5091 : RY T H m (d8 0 3) g8 (H m 32) := ⟨hmn8, rfl⟩
  obtain ⟨t9, ht9⟩ : ∃ t : Int, t = H x 9 := ⟨_, rfl⟩
  obtain ⟨y9, hy9⟩ : ∃ y : Int, y = H 0 ((i + 1).toNat) := ⟨_, rfl⟩
  obtain ⟨r5092, q5093, g5094⟩ := hW.ref gx (t' := 6) (n := 13) (j := 2) (p := 0) (q := 0) rfl (by decide) rfl
  refine wl_of hX hb cL_1232 (xc_V (pc' := 1235) (r := x) (as := [vI (H 0 ((i + 1).toNat))]) (st := []) (lm_11_159) rfl rfl (Nat.le_of_ble_eq_true rfl) hW gx sh_1 (by decide) rfl (by decide) (u_135 (e := e8) (d := d8) (n := n8) hW gx ⟨by omega, by omega⟩ ecu gcu q5093 g5094 ece8 gce8 (by assumption) (by assumption) (by omega) (by omega) (by omega) (by omega) hcu8 hcen8 hhdr8) (fun R5095 T5096 H5097 p5098 => ?_))
  obtain ⟨e5099, w5101, f5102, z5103, e5100, b5104, p5105⟩ := p5098
  subst e5099
  subst e5100
  show WL _ _ _ _ 1235 [(4, vI i), (3, .ref o), (2, .ref m), (1, .ref x), (0, .ref 0)] [vI z5103] _ H5097
  refine wl_of hX hb cL_1235 (rw_pop (pc' := 1236) rfl rfl ?_)
  refine wl_of hX hb cL_1236 (rw_aload_n (pc' := 1237) (v := .ref m) rfl rfl rfl ?_)
  refine wl_of hX hb cL_1237 (rw_aload_n (pc' := 1238) (v := .ref 0) rfl rfl rfl ?_)
  refine wl_of hX hb cL_1238 (rw_iload (pc' := 1240) (z := i) rfl rfl ?_)
  refine wl_of hX hb cL_1240 (rw_iconst (pc' := 1241) rfl ?_)
  refine wl_of hX hb cL_1241 (rw_iadd (pc' := 1242) rfl ?_)
  have k5109 : H5097 0 ((i + 1).toNat) = H 0 ((i + 1).toNat) := (f5102 0 ((i + 1).toNat) _ g0 (wmem_s rfl))
  refine wl_of hX hb cL_1242 (xa_I (so := 0) (pc' := 1243) (a := 0) w5101 g0 (wsh_s _) (by omega) (wty_s _ _) (by omega) (by omega) rfl (fun b5107 b5108 => ?_))
  have k5110 : wKI H5097 m = wKI H m := (wKI_fr hW gm f5102 rfl)
  have k5111 : H5097 x 9 = H x 9 := (f5102 x 9 _ gx rfl)
  have k5112 : H5097 m 6 = H m 6 := (f5102 m 6 _ gm rfl)
  have k5113 : H5097 x 11 = H x 11 := (f5102 x 11 _ gx rfl)
  have k5114 : H5097 m 13 = H m 13 := (f5102 m 13 _ gm rfl)
  have k5115 : H5097 x 8 = H x 8 := (f5102 x 8 _ gx rfl)
  have k5116 : H5097 m 3 = H m 3 := (f5102 m 3 _ gm rfl)
  rw [show H5097 0 ((i + 1).toNat) = H 0 ((i + 1).toNat) by omega]
  have h5117 : RB T H5097 m e8 d8 := (RB_fr hW gm f5102 rfl hrb8)
  have h5118 : KNN T H5097 m e8 d8 := (KNN_fr hW gm f5102 rfl hknn8)
  refine wl_of hX hb cL_1243 (xc_V (pc' := 1246) (r := m) (as := [vI (H 0 ((i + 1).toNat))]) (st := []) (lm_11_162) rfl rfl (Nat.le_of_ble_eq_true rfl) w5101 gm sh_42 (by decide) rfl (by decide) (u_275 (e := e8) (d := d8) w5101 gm ⟨by omega, by omega⟩ (by omega) (by assumption) (by assumption) (by assumption) (by assumption) h5117 h5118) (fun R5119 T5120 H5121 p5122 => ?_))
  obtain ⟨e5123, w5125, f5126, z5127, e5124, b5128, p5129⟩ := p5122
  subst e5123
  subst e5124
  obtain ⟨a5130, a5131⟩ := p5129
  show WL _ _ _ _ 1246 [(4, vI i), (3, .ref o), (2, .ref m), (1, .ref x), (0, .ref 0)] [vI z5127] _ H5121
  refine wl_of hX hb cL_1246 (rw_pop (pc' := 1247) rfl rfl ?_)
  refine wl_of hX hb cL_1247 (rw_goto (p1 := 1653) (by decide) ?_)
  have k5132 : H5121 x 9 = H5097 x 9 := (f5126 x 9 _ gx rfl)
  have k5133 : H5121 m 6 = H5097 m 6 := (f5126 m 6 _ gm rfl)
  have k5134 : H5121 x 11 = H5097 x 11 := (f5126 x 11 _ gx rfl)
  have k5135 : H5121 m 13 = H5097 m 13 := (f5126 m 13 _ gm rfl)
  have k5136 : H5121 x 8 = H5097 x 8 := (f5126 x 8 _ gx rfl)
  have k5137 : H5121 m 3 = H5097 m 3 := (f5126 m 3 _ gm rfl)
  have k5138 : H5121 x 0 = H x 0 := ((f5126 x 0 _ gx rfl).trans (f5102 x 0 _ gx rfl))
  have q5139 : H5121 x 0 = (tc : Int) := k5138.trans e0
  have k5140 : H5121 m 5 = H m 5 := ((f5126 m 5 _ gm rfl).trans (f5102 m 5 _ gm rfl))
  have q5141 : H5121 m 5 = (tm : Int) := k5140.trans em
  have k5142 : H5121 x 6 = H x 6 := ((f5126 x 6 _ gx rfl).trans (f5102 x 6 _ gx rfl))
  have q5143 : H5121 x 6 = (cu : Int) := k5142.trans ecu
  have k5144 : H5121 x 7 = H x 7 := ((f5126 x 7 _ gx rfl).trans (f5102 x 7 _ gx rfl))
  have q5145 : H5121 x 7 = (dr : Int) := k5144.trans edr
  have h5146 : CEN T H5121 ce8 e8 d8 := (CEN_fr w5101 gce8 f5126 rfl p5105)
  have h5147 : TP T H5121 tc B := (TP_fr w5101 gtc f5126 rfl (TP_fr hW gtc f5102 rfl htc))
  have h5148 : TM T H5121 tm B := (TM_fr w5101 gtm f5126 rfl (TM_fr hW gtm f5102 rfl htm))
  have h5149 : DD T H5121 cu  := (DD_fr w5101 gcu f5126 rfl (DD_fr hW gcu f5102 rfl hcu))
  have h5150 : DD T H5121 dr  := (DD_fr w5101 gdr f5126 rfl (DD_fr hW gdr f5102 rfl hdr))
  have h5151 : DE T H5121 cu  := (DE_fr w5101 gcu f5126 rfl (DE_fr hW gcu f5102 rfl hdec))
  have h5152 : DE T H5121 dr  := (DE_fr w5101 gdr f5126 rfl (DE_fr hW gdr f5102 rfl hded))
  have h5153 : SP T H5121 x C8 := (SP_fr w5101 gx f5126 rfl (SP_fr hW gx f5102 rfl hsp))
  have h5154 : CU T H5121 cu e8 d8 n8 := (CU_fr w5101 gcu f5126 rfl (CU_fr hW gcu f5102 rfl hcu8))
  have h5155 : CY T H5121 cu (d8 0 3) g8 (H cu 17) := (CY_fr w5101 gcu f5126 rfl (CY_fr hW gcu f5102 rfl h5090))
  have k5156 : H5121 x 3 = H x 3 := ((f5126 x 3 _ gx rfl).trans (f5102 x 3 _ gx rfl))
  have q5157 : H5121 x 3 = (ce8 : Int) := k5156.trans ece8
  have h5158 : HDR T H5121 ce8  := (HDR_fr w5101 gce8 f5126 rfl (HDR_fr hW gce8 f5102 rfl hhdr8))
  have h5159 : RY T H5121 m (d8 0 3) g8 (H m 32) := (RY_fr w5101 gm f5126 rfl (RY_fr hW gm f5102 rfl h5091))
  have h5160 : RB T H5121 m e8 d8 := (RB_fr w5101 gm f5126 rfl h5117)
  exact WL.loc hX (by simp) (next T H5121 ⟨⟨w5125, g0, gx, gm, go, by omega, by omega⟩, ⟨_, tc, tm, cu, dr, _, _, _, _, _, ce8, q5139, gtc, h5147, q5141, gtm, h5148, q5143, gcu, q5145, gdr, h5149, h5150, h5151, h5152, h5153, hC1, hC2, h5154, h5160, (h5155).1, (h5159).1, hE, hZ, (by omega), (by assumption), (by omega), (by first | assumption | exact SG_0), q5157, gce8, h5146, h5158, a5131, gm⟩, by omega, by omega⟩ (by omega) (by omega))
set_option maxHeartbeats 4000000 in
theorem wl_c34 {kt : Nat → Option mc_E} {CB SB : Nat} {X : mc_S → Prop} {T : wq_T} {H : wq_H} {Len x m o : Nat} {i : Int} (hX : wlX kt CB SB X) (hb : T.2.1 ≤ CB ∧ T.2.2.1 ≤ SB) (hI : wlJ Len x m o T H) (hL : Len ≤ 3072) (hi : 0 ≤ i ∧ i + 6 ≤ Len) (hb2 : T.2.1 + 20 ≤ CB ∧ T.2.2.1 + 500 ≤ SB)  (next : ∀ T' H', wlJ Len x m o T' H' → T'.2.1 ≤ T.2.1 + 20 → T'.2.2.1 ≤ T.2.2.1 + 500 → WL kt CB SB X 1653 (wlL i x m o) [] T' H') : WL kt CB SB X 1250 (wlL i x m o) [] T H := by
  obtain ⟨⟨hW, g0, gx, gm, go, hK, hr⟩, hXI, hY1, hY2⟩ := hI
  refine wl_of hX hb cL_1250 (rw_aload_n (pc' := 1251) (v := .ref x) rfl rfl rfl ?_)
  obtain ⟨B, tc, tm, cu, dr, C8, e8, d8, n8, g8, ce8, e0, gtc, htc, em, gtm, htm, ecu, gcu, edr, gdr, hcu, hdr, hdec, hded, hsp, hC1, hC2, hcu8, hrb8, hcg8, hmn8, hE, hZ, hn8, hXA, hV8, hSG, ece8, gce8, hcen8, hhdr8, hknn8, -⟩ := hXI
  have hN3 := RB_n3 hrb8
  have hE13 : ∀ h : Nat, h < 24 → 0 ≤ e8 13 h ∧ e8 13 h ≤ 100 := fun k hk => by
    obtain ⟨s, h1, h2, h3⟩ := hcu8.1.2.2.1
    exact ⟨(h3 k hk).1, (h3 k hk).2.1⟩
  have hXW := hXA.1
  have hXN := hXA.2
  have hE0 : e8 0 3 = d8 0 3 ∧ e8 0 0 = d8 0 0 := by
    have h := hE 0 (by decide)
    exact ⟨congrFun h 3, congrFun h 0⟩
  have u5161 := CU_k hcu8
  have h5162 : CY T H cu (d8 0 3) g8 (H cu 17) := ⟨hcg8, rfl⟩
  have h5163 : RY T H m (d8 0 3) g8 (H m 32) := ⟨hmn8, rfl⟩
  obtain ⟨t9, ht9⟩ : ∃ t : Int, t = H x 9 := ⟨_, rfl⟩
  obtain ⟨r5164, q5165, g5166⟩ := hW.ref gx (t' := 6) (n := 13) (j := 2) (p := 0) (q := 0) rfl (by decide) rfl
  refine wl_of hX hb cL_1251 (xc_V (pc' := 1254) (r := x) (as := []) (st := []) (lm_11_163) rfl rfl (Nat.le_of_ble_eq_true rfl) hW gx sh_1 (by decide) rfl (by decide) (u_137 (e := e8) (d := d8) (n := n8) hW gx ecu gcu q5165 g5166 ece8 gce8 (by assumption) (by assumption) (by omega) (by omega) (by omega) (by omega) hcu8 hcen8 hhdr8) (fun R5167 T5168 H5169 p5170 => ?_))
  obtain ⟨e5171, w5173, f5174, z5175, e5172, b5176, p5177⟩ := p5170
  subst e5171
  subst e5172
  show WL _ _ _ _ 1254 [(4, vI i), (3, .ref o), (2, .ref m), (1, .ref x), (0, .ref 0)] [vI z5175] _ H5169
  refine wl_of hX hb cL_1254 (rw_pop (pc' := 1255) rfl rfl ?_)
  refine wl_of hX hb cL_1255 (rw_aload_n (pc' := 1256) (v := .ref m) rfl rfl rfl ?_)
  have k5179 : wKI H5169 m = wKI H m := (wKI_fr hW gm f5174 rfl)
  have k5180 : H5169 x 9 = H x 9 := (f5174 x 9 _ gx rfl)
  have k5181 : H5169 m 6 = H m 6 := (f5174 m 6 _ gm rfl)
  have k5182 : H5169 x 11 = H x 11 := (f5174 x 11 _ gx rfl)
  have k5183 : H5169 m 13 = H m 13 := (f5174 m 13 _ gm rfl)
  have k5184 : H5169 x 8 = H x 8 := (f5174 x 8 _ gx rfl)
  have k5185 : H5169 m 3 = H m 3 := (f5174 m 3 _ gm rfl)
  have h5186 : RB T H5169 m e8 d8 := (RB_fr hW gm f5174 rfl hrb8)
  have h5187 : KNN T H5169 m e8 d8 := (KNN_fr hW gm f5174 rfl hknn8)
  refine wl_of hX hb cL_1256 (xc_V (pc' := 1259) (r := m) (as := []) (st := []) (lm_11_166) rfl rfl (Nat.le_of_ble_eq_true rfl) w5173 gm sh_42 (by decide) rfl (by decide) (u_276 (e := e8) (d := d8) w5173 gm (by omega) (by assumption) (by assumption) (by assumption) (by assumption) h5186 h5187) (fun R5188 T5189 H5190 p5191 => ?_))
  obtain ⟨e5192, w5194, f5195, z5196, e5193, b5197, p5198⟩ := p5191
  subst e5192
  subst e5193
  obtain ⟨a5199, a5200⟩ := p5198
  show WL _ _ _ _ 1259 [(4, vI i), (3, .ref o), (2, .ref m), (1, .ref x), (0, .ref 0)] [vI z5196] _ H5190
  refine wl_of hX hb cL_1259 (rw_pop (pc' := 1260) rfl rfl ?_)
  refine wl_of hX hb cL_1260 (rw_goto (p1 := 1653) (by decide) ?_)
  have k5201 : H5190 x 9 = H5169 x 9 := (f5195 x 9 _ gx rfl)
  have k5202 : H5190 m 6 = H5169 m 6 := (f5195 m 6 _ gm rfl)
  have k5203 : H5190 x 11 = H5169 x 11 := (f5195 x 11 _ gx rfl)
  have k5204 : H5190 m 13 = H5169 m 13 := (f5195 m 13 _ gm rfl)
  have k5205 : H5190 x 8 = H5169 x 8 := (f5195 x 8 _ gx rfl)
  have k5206 : H5190 m 3 = H5169 m 3 := (f5195 m 3 _ gm rfl)
  have k5207 : H5190 x 0 = H x 0 := ((f5195 x 0 _ gx rfl).trans (f5174 x 0 _ gx rfl))
  have q5208 : H5190 x 0 = (tc : Int) := k5207.trans e0
  have k5209 : H5190 m 5 = H m 5 := ((f5195 m 5 _ gm rfl).trans (f5174 m 5 _ gm rfl))
  have q5210 : H5190 m 5 = (tm : Int) := k5209.trans em
  have k5211 : H5190 x 6 = H x 6 := ((f5195 x 6 _ gx rfl).trans (f5174 x 6 _ gx rfl))
  have q5212 : H5190 x 6 = (cu : Int) := k5211.trans ecu
  have k5213 : H5190 x 7 = H x 7 := ((f5195 x 7 _ gx rfl).trans (f5174 x 7 _ gx rfl))
  have q5214 : H5190 x 7 = (dr : Int) := k5213.trans edr
  have h5215 : CEN T H5190 ce8 e8 d8 := (CEN_fr w5173 gce8 f5195 rfl p5177)
  have h5216 : TP T H5190 tc B := (TP_fr w5173 gtc f5195 rfl (TP_fr hW gtc f5174 rfl htc))
  have h5217 : TM T H5190 tm B := (TM_fr w5173 gtm f5195 rfl (TM_fr hW gtm f5174 rfl htm))
  have h5218 : DD T H5190 cu  := (DD_fr w5173 gcu f5195 rfl (DD_fr hW gcu f5174 rfl hcu))
  have h5219 : DD T H5190 dr  := (DD_fr w5173 gdr f5195 rfl (DD_fr hW gdr f5174 rfl hdr))
  have h5220 : DE T H5190 cu  := (DE_fr w5173 gcu f5195 rfl (DE_fr hW gcu f5174 rfl hdec))
  have h5221 : DE T H5190 dr  := (DE_fr w5173 gdr f5195 rfl (DE_fr hW gdr f5174 rfl hded))
  have h5222 : SP T H5190 x C8 := (SP_fr w5173 gx f5195 rfl (SP_fr hW gx f5174 rfl hsp))
  have h5223 : CU T H5190 cu e8 d8 n8 := (CU_fr w5173 gcu f5195 rfl (CU_fr hW gcu f5174 rfl hcu8))
  have h5224 : CY T H5190 cu (d8 0 3) g8 (H cu 17) := (CY_fr w5173 gcu f5195 rfl (CY_fr hW gcu f5174 rfl h5162))
  have k5225 : H5190 x 3 = H x 3 := ((f5195 x 3 _ gx rfl).trans (f5174 x 3 _ gx rfl))
  have q5226 : H5190 x 3 = (ce8 : Int) := k5225.trans ece8
  have h5227 : HDR T H5190 ce8  := (HDR_fr w5173 gce8 f5195 rfl (HDR_fr hW gce8 f5174 rfl hhdr8))
  have h5228 : RY T H5190 m (d8 0 3) g8 (H m 32) := (RY_fr w5173 gm f5195 rfl (RY_fr hW gm f5174 rfl h5163))
  have h5229 : RB T H5190 m e8 d8 := (RB_fr w5173 gm f5195 rfl h5186)
  exact WL.loc hX (by simp) (next T H5190 ⟨⟨w5194, g0, gx, gm, go, by omega, by omega⟩, ⟨_, tc, tm, cu, dr, _, _, _, _, _, ce8, q5208, gtc, h5216, q5210, gtm, h5217, q5212, gcu, q5214, gdr, h5218, h5219, h5220, h5221, h5222, hC1, hC2, h5223, h5229, (h5224).1, (h5228).1, hE, hZ, (by omega), (by assumption), (by omega), (by first | assumption | exact SG_0), q5226, gce8, h5215, h5227, a5200, gm⟩, by omega, by omega⟩ (by omega) (by omega))
set_option maxHeartbeats 4000000 in
theorem wl_c35 {kt : Nat → Option mc_E} {CB SB : Nat} {X : mc_S → Prop} {T : wq_T} {H : wq_H} {Len x m o : Nat} {i : Int} (hX : wlX kt CB SB X) (hb : T.2.1 ≤ CB ∧ T.2.2.1 ≤ SB) (hI : wlJ Len x m o T H) (hL : Len ≤ 3072) (hi : 0 ≤ i ∧ i + 6 ≤ Len) (hb2 : T.2.1 + 20 ≤ CB ∧ T.2.2.1 + 500 ≤ SB)  (next : ∀ T' H', wlJ Len x m o T' H' → T'.2.1 ≤ T.2.1 + 20 → T'.2.2.1 ≤ T.2.2.1 + 500 → WL kt CB SB X 1653 (wlL i x m o) [] T' H') : WL kt CB SB X 1263 (wlL i x m o) [] T H := by
  obtain ⟨⟨hW, g0, gx, gm, go, hK, hr⟩, hXI, hY1, hY2⟩ := hI
  refine wl_of hX hb cL_1263 (rw_aload_n (pc' := 1264) (v := .ref x) rfl rfl rfl ?_)
  refine wl_of hX hb cL_1264 (rw_aload_n (pc' := 1265) (v := .ref 0) rfl rfl rfl ?_)
  refine wl_of hX hb cL_1265 (rw_iload (pc' := 1267) (z := i) rfl rfl ?_)
  refine wl_of hX hb cL_1267 (rw_iconst (pc' := 1268) rfl ?_)
  refine wl_of hX hb cL_1268 (rw_iadd (pc' := 1269) rfl ?_)
  refine wl_of hX hb cL_1269 (xa_I (so := 0) (pc' := 1270) (a := 0) hW g0 (wsh_s _) (by omega) (wty_s _ _) (by omega) (by omega) rfl (fun b5230 b5231 => ?_))
  refine wl_of hX hb cL_1270 (rw_aload_n (pc' := 1271) (v := .ref 0) rfl rfl rfl ?_)
  refine wl_of hX hb cL_1271 (rw_iload (pc' := 1273) (z := i) rfl rfl ?_)
  refine wl_of hX hb cL_1273 (rw_iconst (pc' := 1274) rfl ?_)
  refine wl_of hX hb cL_1274 (rw_iadd (pc' := 1275) rfl ?_)
  refine wl_of hX hb cL_1275 (xa_I (so := 0) (pc' := 1276) (a := 0) hW g0 (wsh_s _) (by omega) (wty_s _ _) (by omega) (by omega) rfl (fun b5232 b5233 => ?_))
  refine wl_of hX hb cL_1276 (rw_if_eq (p1 := 1283) (p2 := 1279) (by decide) rfl ⟨by omega, by omega⟩ (fun c5234 => ?_) (fun c5234 => ?_))
  · refine wl_of hX hb cL_1283 (rw_iconst (pc' := 1284) rfl ?_)
    obtain ⟨B, tc, tm, cu, dr, C8, e8, d8, n8, g8, ce8, e0, gtc, htc, em, gtm, htm, ecu, gcu, edr, gdr, hcu, hdr, hdec, hded, hsp, hC1, hC2, hcu8, hrb8, hcg8, hmn8, hE, hZ, hn8, hXA, hV8, hSG, ece8, gce8, hcen8, hhdr8, hknn8, -⟩ := hXI
    have hN3 := RB_n3 hrb8
    have hE13 : ∀ h : Nat, h < 24 → 0 ≤ e8 13 h ∧ e8 13 h ≤ 100 := fun k hk => by
      obtain ⟨s, h1, h2, h3⟩ := hcu8.1.2.2.1
      exact ⟨(h3 k hk).1, (h3 k hk).2.1⟩
    have hXW := hXA.1
    have hXN := hXA.2
    have hE0 : e8 0 3 = d8 0 3 ∧ e8 0 0 = d8 0 0 := by
      have h := hE 0 (by decide)
      exact ⟨congrFun h 3, congrFun h 0⟩
    have u5235 := CU_k hcu8
    have h5236 : CY T H cu (d8 0 3) g8 (H cu 17) := ⟨hcg8, rfl⟩
    have h5237 : RY T H m (d8 0 3) g8 (H m 32) := ⟨hmn8, rfl⟩
    obtain ⟨t9, ht9⟩ : ∃ t : Int, t = H x 9 := ⟨_, rfl⟩
    obtain ⟨y9, hy9⟩ : ∃ y : Int, y = 0 := ⟨_, rfl⟩
    obtain ⟨r5238, q5239, g5240⟩ := hW.ref gx (t' := 6) (n := 13) (j := 2) (p := 0) (q := 0) rfl (by decide) rfl
    refine wl_of hX hb cL_1284 (xc_V (pc' := 1287) (r := x) (as := [vI (H 0 ((i + 1).toNat)), vI 0]) (st := []) (lm_11_167) rfl rfl (Nat.le_of_ble_eq_true rfl) hW gx sh_1 (by decide) rfl (by decide) (u_146 (e := e8) (d := d8) (n := n8) hW gx ⟨by omega, by omega⟩ ⟨by decide, by decide⟩ ecu gcu q5239 g5240 ece8 gce8 (by assumption) (by assumption) (by omega) (by omega) (by omega) (by omega) hcu8 hcen8 hhdr8) (fun R5241 T5242 H5243 p5244 => ?_))
    obtain ⟨e5245, w5247, f5248, z5249, e5246, b5250, p5251⟩ := p5244
    subst e5245
    subst e5246
    show WL _ _ _ _ 1287 [(4, vI i), (3, .ref o), (2, .ref m), (1, .ref x), (0, .ref 0)] [vI z5249] _ H5243
    refine wl_of hX hb cL_1287 (rw_pop (pc' := 1288) rfl rfl ?_)
    refine wl_of hX hb cL_1288 (rw_aload_n (pc' := 1289) (v := .ref m) rfl rfl rfl ?_)
    refine wl_of hX hb cL_1289 (rw_aload_n (pc' := 1290) (v := .ref 0) rfl rfl rfl ?_)
    refine wl_of hX hb cL_1290 (rw_iload (pc' := 1292) (z := i) rfl rfl ?_)
    refine wl_of hX hb cL_1292 (rw_iconst (pc' := 1293) rfl ?_)
    refine wl_of hX hb cL_1293 (rw_iadd (pc' := 1294) rfl ?_)
    have k5255 : H5243 0 ((i + 1).toNat) = H 0 ((i + 1).toNat) := (f5248 0 ((i + 1).toNat) _ g0 (wmem_s rfl))
    refine wl_of hX hb cL_1294 (xa_I (so := 0) (pc' := 1295) (a := 0) w5247 g0 (wsh_s _) (by omega) (wty_s _ _) (by omega) (by omega) rfl (fun b5253 b5254 => ?_))
    refine wl_of hX hb cL_1295 (rw_aload_n (pc' := 1296) (v := .ref 0) rfl rfl rfl ?_)
    refine wl_of hX hb cL_1296 (rw_iload (pc' := 1298) (z := i) rfl rfl ?_)
    refine wl_of hX hb cL_1298 (rw_iconst (pc' := 1299) rfl ?_)
    refine wl_of hX hb cL_1299 (rw_iadd (pc' := 1300) rfl ?_)
    have k5258 : H5243 0 ((i + 2).toNat) = H 0 ((i + 2).toNat) := (f5248 0 ((i + 2).toNat) _ g0 (wmem_s rfl))
    refine wl_of hX hb cL_1300 (xa_I (so := 0) (pc' := 1301) (a := 0) w5247 g0 (wsh_s _) (by omega) (wty_s _ _) (by omega) (by omega) rfl (fun b5256 b5257 => ?_))
    refine wl_of hX hb cL_1301 (rw_if_eq (p1 := 1308) (p2 := 1304) (by decide) rfl ⟨by omega, by omega⟩ (fun c5259 => ?_) (fun c5259 => ?_))
    · refine wl_of hX hb cL_1308 (rw_iconst (pc' := 1309) rfl ?_)
      have k5260 : wKI H5243 m = wKI H m := (wKI_fr hW gm f5248 rfl)
      have k5261 : H5243 x 9 = H x 9 := (f5248 x 9 _ gx rfl)
      have k5262 : H5243 m 6 = H m 6 := (f5248 m 6 _ gm rfl)
      have k5263 : H5243 x 11 = H x 11 := (f5248 x 11 _ gx rfl)
      have k5264 : H5243 m 13 = H m 13 := (f5248 m 13 _ gm rfl)
      have k5265 : H5243 x 8 = H x 8 := (f5248 x 8 _ gx rfl)
      have k5266 : H5243 m 3 = H m 3 := (f5248 m 3 _ gm rfl)
      rw [show H5243 0 ((i + 1).toNat) = H 0 ((i + 1).toNat) by omega]
      have h5267 : RB T H5243 m e8 d8 := (RB_fr hW gm f5248 rfl hrb8)
      have h5268 : KNN T H5243 m e8 d8 := (KNN_fr hW gm f5248 rfl hknn8)
      refine wl_of hX hb cL_1309 (xc_V (pc' := 1312) (r := m) (as := [vI (H 0 ((i + 1).toNat)), vI 0]) (st := []) (lm_11_170) rfl rfl (Nat.le_of_ble_eq_true rfl) w5247 gm sh_42 (by decide) rfl (by decide) (u_279 (e := e8) (d := d8) w5247 gm ⟨by omega, by omega⟩ ⟨by decide, by decide⟩ (by omega) (by assumption) (by assumption) (by assumption) (by assumption) h5267 h5268) (fun R5269 T5270 H5271 p5272 => ?_))
      obtain ⟨e5273, w5275, f5276, z5277, e5274, b5278, p5279⟩ := p5272
      subst e5273
      subst e5274
      obtain ⟨a5280, a5281⟩ := p5279
      show WL _ _ _ _ 1312 [(4, vI i), (3, .ref o), (2, .ref m), (1, .ref x), (0, .ref 0)] [vI z5277] _ H5271
      refine wl_of hX hb cL_1312 (rw_pop (pc' := 1313) rfl rfl ?_)
      refine wl_of hX hb cL_1313 (rw_goto (p1 := 1653) (by decide) ?_)
      have k5282 : H5271 x 9 = H5243 x 9 := (f5276 x 9 _ gx rfl)
      have k5283 : H5271 m 6 = H5243 m 6 := (f5276 m 6 _ gm rfl)
      have k5284 : H5271 x 11 = H5243 x 11 := (f5276 x 11 _ gx rfl)
      have k5285 : H5271 m 13 = H5243 m 13 := (f5276 m 13 _ gm rfl)
      have k5286 : H5271 x 8 = H5243 x 8 := (f5276 x 8 _ gx rfl)
      have k5287 : H5271 m 3 = H5243 m 3 := (f5276 m 3 _ gm rfl)
      have k5288 : H5271 x 0 = H x 0 := ((f5276 x 0 _ gx rfl).trans (f5248 x 0 _ gx rfl))
      have q5289 : H5271 x 0 = (tc : Int) := k5288.trans e0
      have k5290 : H5271 m 5 = H m 5 := ((f5276 m 5 _ gm rfl).trans (f5248 m 5 _ gm rfl))
      have q5291 : H5271 m 5 = (tm : Int) := k5290.trans em
      have k5292 : H5271 x 6 = H x 6 := ((f5276 x 6 _ gx rfl).trans (f5248 x 6 _ gx rfl))
      have q5293 : H5271 x 6 = (cu : Int) := k5292.trans ecu
      have k5294 : H5271 x 7 = H x 7 := ((f5276 x 7 _ gx rfl).trans (f5248 x 7 _ gx rfl))
      have q5295 : H5271 x 7 = (dr : Int) := k5294.trans edr
      have h5296 : CEN T H5271 ce8 e8 d8 := (CEN_fr w5247 gce8 f5276 rfl p5251)
      have h5297 : TP T H5271 tc B := (TP_fr w5247 gtc f5276 rfl (TP_fr hW gtc f5248 rfl htc))
      have h5298 : TM T H5271 tm B := (TM_fr w5247 gtm f5276 rfl (TM_fr hW gtm f5248 rfl htm))
      have h5299 : DD T H5271 cu  := (DD_fr w5247 gcu f5276 rfl (DD_fr hW gcu f5248 rfl hcu))
      have h5300 : DD T H5271 dr  := (DD_fr w5247 gdr f5276 rfl (DD_fr hW gdr f5248 rfl hdr))
      have h5301 : DE T H5271 cu  := (DE_fr w5247 gcu f5276 rfl (DE_fr hW gcu f5248 rfl hdec))
      have h5302 : DE T H5271 dr  := (DE_fr w5247 gdr f5276 rfl (DE_fr hW gdr f5248 rfl hded))
      have h5303 : SP T H5271 x C8 := (SP_fr w5247 gx f5276 rfl (SP_fr hW gx f5248 rfl hsp))
      have h5304 : CU T H5271 cu e8 d8 n8 := (CU_fr w5247 gcu f5276 rfl (CU_fr hW gcu f5248 rfl hcu8))
      have h5305 : CY T H5271 cu (d8 0 3) g8 (H cu 17) := (CY_fr w5247 gcu f5276 rfl (CY_fr hW gcu f5248 rfl h5236))
      have k5306 : H5271 x 3 = H x 3 := ((f5276 x 3 _ gx rfl).trans (f5248 x 3 _ gx rfl))
      have q5307 : H5271 x 3 = (ce8 : Int) := k5306.trans ece8
      have h5308 : HDR T H5271 ce8  := (HDR_fr w5247 gce8 f5276 rfl (HDR_fr hW gce8 f5248 rfl hhdr8))
      have h5309 : RY T H5271 m (d8 0 3) g8 (H m 32) := (RY_fr w5247 gm f5276 rfl (RY_fr hW gm f5248 rfl h5237))
      have h5310 : RB T H5271 m e8 d8 := (RB_fr w5247 gm f5276 rfl h5267)
      exact WL.loc hX (by simp) (next T H5271 ⟨⟨w5275, g0, gx, gm, go, by omega, by omega⟩, ⟨_, tc, tm, cu, dr, _, _, _, _, _, ce8, q5289, gtc, h5297, q5291, gtm, h5298, q5293, gcu, q5295, gdr, h5299, h5300, h5301, h5302, h5303, hC1, hC2, h5304, h5310, (h5305).1, (h5309).1, hE, hZ, (by omega), (by assumption), (by omega), (by first | assumption | exact SG_0), q5307, gce8, h5296, h5308, a5281, gm⟩, by omega, by omega⟩ (by omega) (by omega))
    · exfalso
      omega
  · refine wl_of hX hb cL_1279 (rw_iconst (pc' := 1280) rfl ?_)
    refine wl_of hX hb cL_1280 (rw_goto (p1 := 1284) (by decide) ?_)
    obtain ⟨B, tc, tm, cu, dr, C8, e8, d8, n8, g8, ce8, e0, gtc, htc, em, gtm, htm, ecu, gcu, edr, gdr, hcu, hdr, hdec, hded, hsp, hC1, hC2, hcu8, hrb8, hcg8, hmn8, hE, hZ, hn8, hXA, hV8, hSG, ece8, gce8, hcen8, hhdr8, hknn8, -⟩ := hXI
    have hN3 := RB_n3 hrb8
    have hE13 : ∀ h : Nat, h < 24 → 0 ≤ e8 13 h ∧ e8 13 h ≤ 100 := fun k hk => by
      obtain ⟨s, h1, h2, h3⟩ := hcu8.1.2.2.1
      exact ⟨(h3 k hk).1, (h3 k hk).2.1⟩
    have hXW := hXA.1
    have hXN := hXA.2
    have hE0 : e8 0 3 = d8 0 3 ∧ e8 0 0 = d8 0 0 := by
      have h := hE 0 (by decide)
      exact ⟨congrFun h 3, congrFun h 0⟩
    have u5311 := CU_k hcu8
    have h5312 : CY T H cu (d8 0 3) g8 (H cu 17) := ⟨hcg8, rfl⟩
    have h5313 : RY T H m (d8 0 3) g8 (H m 32) := ⟨hmn8, rfl⟩
    obtain ⟨t9, ht9⟩ : ∃ t : Int, t = H x 9 := ⟨_, rfl⟩
    obtain ⟨y9, hy9⟩ : ∃ y : Int, y = 1 := ⟨_, rfl⟩
    obtain ⟨r5314, q5315, g5316⟩ := hW.ref gx (t' := 6) (n := 13) (j := 2) (p := 0) (q := 0) rfl (by decide) rfl
    refine wl_of hX hb cL_1284 (xc_V (pc' := 1287) (r := x) (as := [vI (H 0 ((i + 1).toNat)), vI 1]) (st := []) (lm_11_167) rfl rfl (Nat.le_of_ble_eq_true rfl) hW gx sh_1 (by decide) rfl (by decide) (u_146 (e := e8) (d := d8) (n := n8) hW gx ⟨by omega, by omega⟩ ⟨by decide, by decide⟩ ecu gcu q5315 g5316 ece8 gce8 (by assumption) (by assumption) (by omega) (by omega) (by omega) (by omega) hcu8 hcen8 hhdr8) (fun R5317 T5318 H5319 p5320 => ?_))
    obtain ⟨e5321, w5323, f5324, z5325, e5322, b5326, p5327⟩ := p5320
    subst e5321
    subst e5322
    show WL _ _ _ _ 1287 [(4, vI i), (3, .ref o), (2, .ref m), (1, .ref x), (0, .ref 0)] [vI z5325] _ H5319
    refine wl_of hX hb cL_1287 (rw_pop (pc' := 1288) rfl rfl ?_)
    refine wl_of hX hb cL_1288 (rw_aload_n (pc' := 1289) (v := .ref m) rfl rfl rfl ?_)
    refine wl_of hX hb cL_1289 (rw_aload_n (pc' := 1290) (v := .ref 0) rfl rfl rfl ?_)
    refine wl_of hX hb cL_1290 (rw_iload (pc' := 1292) (z := i) rfl rfl ?_)
    refine wl_of hX hb cL_1292 (rw_iconst (pc' := 1293) rfl ?_)
    refine wl_of hX hb cL_1293 (rw_iadd (pc' := 1294) rfl ?_)
    have k5331 : H5319 0 ((i + 1).toNat) = H 0 ((i + 1).toNat) := (f5324 0 ((i + 1).toNat) _ g0 (wmem_s rfl))
    refine wl_of hX hb cL_1294 (xa_I (so := 0) (pc' := 1295) (a := 0) w5323 g0 (wsh_s _) (by omega) (wty_s _ _) (by omega) (by omega) rfl (fun b5329 b5330 => ?_))
    refine wl_of hX hb cL_1295 (rw_aload_n (pc' := 1296) (v := .ref 0) rfl rfl rfl ?_)
    refine wl_of hX hb cL_1296 (rw_iload (pc' := 1298) (z := i) rfl rfl ?_)
    refine wl_of hX hb cL_1298 (rw_iconst (pc' := 1299) rfl ?_)
    refine wl_of hX hb cL_1299 (rw_iadd (pc' := 1300) rfl ?_)
    have k5334 : H5319 0 ((i + 2).toNat) = H 0 ((i + 2).toNat) := (f5324 0 ((i + 2).toNat) _ g0 (wmem_s rfl))
    refine wl_of hX hb cL_1300 (xa_I (so := 0) (pc' := 1301) (a := 0) w5323 g0 (wsh_s _) (by omega) (wty_s _ _) (by omega) (by omega) rfl (fun b5332 b5333 => ?_))
    refine wl_of hX hb cL_1301 (rw_if_eq (p1 := 1308) (p2 := 1304) (by decide) rfl ⟨by omega, by omega⟩ (fun c5335 => ?_) (fun c5335 => ?_))
    · refine wl_of hX hb cL_1308 (rw_iconst (pc' := 1309) rfl ?_)
      have k5336 : wKI H5319 m = wKI H m := (wKI_fr hW gm f5324 rfl)
      have k5337 : H5319 x 9 = H x 9 := (f5324 x 9 _ gx rfl)
      have k5338 : H5319 m 6 = H m 6 := (f5324 m 6 _ gm rfl)
      have k5339 : H5319 x 11 = H x 11 := (f5324 x 11 _ gx rfl)
      have k5340 : H5319 m 13 = H m 13 := (f5324 m 13 _ gm rfl)
      have k5341 : H5319 x 8 = H x 8 := (f5324 x 8 _ gx rfl)
      have k5342 : H5319 m 3 = H m 3 := (f5324 m 3 _ gm rfl)
      rw [show H5319 0 ((i + 1).toNat) = H 0 ((i + 1).toNat) by omega]
      have h5343 : RB T H5319 m e8 d8 := (RB_fr hW gm f5324 rfl hrb8)
      have h5344 : KNN T H5319 m e8 d8 := (KNN_fr hW gm f5324 rfl hknn8)
      refine wl_of hX hb cL_1309 (xc_V (pc' := 1312) (r := m) (as := [vI (H 0 ((i + 1).toNat)), vI 0]) (st := []) (lm_11_170) rfl rfl (Nat.le_of_ble_eq_true rfl) w5323 gm sh_42 (by decide) rfl (by decide) (u_279 (e := e8) (d := d8) w5323 gm ⟨by omega, by omega⟩ ⟨by decide, by decide⟩ (by omega) (by assumption) (by assumption) (by assumption) (by assumption) h5343 h5344) (fun R5345 T5346 H5347 p5348 => ?_))
      obtain ⟨e5349, w5351, f5352, z5353, e5350, b5354, p5355⟩ := p5348
      subst e5349
      subst e5350
      obtain ⟨a5356, a5357⟩ := p5355
      show WL _ _ _ _ 1312 [(4, vI i), (3, .ref o), (2, .ref m), (1, .ref x), (0, .ref 0)] [vI z5353] _ H5347
      refine wl_of hX hb cL_1312 (rw_pop (pc' := 1313) rfl rfl ?_)
      refine wl_of hX hb cL_1313 (rw_goto (p1 := 1653) (by decide) ?_)
      have k5358 : H5347 x 9 = H5319 x 9 := (f5352 x 9 _ gx rfl)
      have k5359 : H5347 m 6 = H5319 m 6 := (f5352 m 6 _ gm rfl)
      have k5360 : H5347 x 11 = H5319 x 11 := (f5352 x 11 _ gx rfl)
      have k5361 : H5347 m 13 = H5319 m 13 := (f5352 m 13 _ gm rfl)
      have k5362 : H5347 x 8 = H5319 x 8 := (f5352 x 8 _ gx rfl)
      have k5363 : H5347 m 3 = H5319 m 3 := (f5352 m 3 _ gm rfl)
      have k5364 : H5347 x 0 = H x 0 := ((f5352 x 0 _ gx rfl).trans (f5324 x 0 _ gx rfl))
      have q5365 : H5347 x 0 = (tc : Int) := k5364.trans e0
      have k5366 : H5347 m 5 = H m 5 := ((f5352 m 5 _ gm rfl).trans (f5324 m 5 _ gm rfl))
      have q5367 : H5347 m 5 = (tm : Int) := k5366.trans em
      have k5368 : H5347 x 6 = H x 6 := ((f5352 x 6 _ gx rfl).trans (f5324 x 6 _ gx rfl))
      have q5369 : H5347 x 6 = (cu : Int) := k5368.trans ecu
      have k5370 : H5347 x 7 = H x 7 := ((f5352 x 7 _ gx rfl).trans (f5324 x 7 _ gx rfl))
      have q5371 : H5347 x 7 = (dr : Int) := k5370.trans edr
      have h5372 : CEN T H5347 ce8 e8 d8 := (CEN_fr w5323 gce8 f5352 rfl p5327)
      have h5373 : TP T H5347 tc B := (TP_fr w5323 gtc f5352 rfl (TP_fr hW gtc f5324 rfl htc))
      have h5374 : TM T H5347 tm B := (TM_fr w5323 gtm f5352 rfl (TM_fr hW gtm f5324 rfl htm))
      have h5375 : DD T H5347 cu  := (DD_fr w5323 gcu f5352 rfl (DD_fr hW gcu f5324 rfl hcu))
      have h5376 : DD T H5347 dr  := (DD_fr w5323 gdr f5352 rfl (DD_fr hW gdr f5324 rfl hdr))
      have h5377 : DE T H5347 cu  := (DE_fr w5323 gcu f5352 rfl (DE_fr hW gcu f5324 rfl hdec))
      have h5378 : DE T H5347 dr  := (DE_fr w5323 gdr f5352 rfl (DE_fr hW gdr f5324 rfl hded))
      have h5379 : SP T H5347 x C8 := (SP_fr w5323 gx f5352 rfl (SP_fr hW gx f5324 rfl hsp))
      have h5380 : CU T H5347 cu e8 d8 n8 := (CU_fr w5323 gcu f5352 rfl (CU_fr hW gcu f5324 rfl hcu8))
      have h5381 : CY T H5347 cu (d8 0 3) g8 (H cu 17) := (CY_fr w5323 gcu f5352 rfl (CY_fr hW gcu f5324 rfl h5312))
      have k5382 : H5347 x 3 = H x 3 := ((f5352 x 3 _ gx rfl).trans (f5324 x 3 _ gx rfl))
      have q5383 : H5347 x 3 = (ce8 : Int) := k5382.trans ece8
      have h5384 : HDR T H5347 ce8  := (HDR_fr w5323 gce8 f5352 rfl (HDR_fr hW gce8 f5324 rfl hhdr8))
      have h5385 : RY T H5347 m (d8 0 3) g8 (H m 32) := (RY_fr w5323 gm f5352 rfl (RY_fr hW gm f5324 rfl h5313))
      have h5386 : RB T H5347 m e8 d8 := (RB_fr w5323 gm f5352 rfl h5343)
      exact WL.loc hX (by simp) (next T H5347 ⟨⟨w5351, g0, gx, gm, go, by omega, by omega⟩, ⟨_, tc, tm, cu, dr, _, _, _, _, _, ce8, q5365, gtc, h5373, q5367, gtm, h5374, q5369, gcu, q5371, gdr, h5375, h5376, h5377, h5378, h5379, hC1, hC2, h5380, h5386, (h5381).1, (h5385).1, hE, hZ, (by omega), (by assumption), (by omega), (by first | assumption | exact SG_0), q5383, gce8, h5372, h5384, a5357, gm⟩, by omega, by omega⟩ (by omega) (by omega))
    · refine wl_of hX hb cL_1304 (rw_iconst (pc' := 1305) rfl ?_)
      refine wl_of hX hb cL_1305 (rw_goto (p1 := 1309) (by decide) ?_)
      have k5387 : wKI H5319 m = wKI H m := (wKI_fr hW gm f5324 rfl)
      have k5388 : H5319 x 9 = H x 9 := (f5324 x 9 _ gx rfl)
      have k5389 : H5319 m 6 = H m 6 := (f5324 m 6 _ gm rfl)
      have k5390 : H5319 x 11 = H x 11 := (f5324 x 11 _ gx rfl)
      have k5391 : H5319 m 13 = H m 13 := (f5324 m 13 _ gm rfl)
      have k5392 : H5319 x 8 = H x 8 := (f5324 x 8 _ gx rfl)
      have k5393 : H5319 m 3 = H m 3 := (f5324 m 3 _ gm rfl)
      rw [show H5319 0 ((i + 1).toNat) = H 0 ((i + 1).toNat) by omega]
      have h5394 : RB T H5319 m e8 d8 := (RB_fr hW gm f5324 rfl hrb8)
      have h5395 : KNN T H5319 m e8 d8 := (KNN_fr hW gm f5324 rfl hknn8)
      refine wl_of hX hb cL_1309 (xc_V (pc' := 1312) (r := m) (as := [vI (H 0 ((i + 1).toNat)), vI 1]) (st := []) (lm_11_170) rfl rfl (Nat.le_of_ble_eq_true rfl) w5323 gm sh_42 (by decide) rfl (by decide) (u_279 (e := e8) (d := d8) w5323 gm ⟨by omega, by omega⟩ ⟨by decide, by decide⟩ (by omega) (by assumption) (by assumption) (by assumption) (by assumption) h5394 h5395) (fun R5396 T5397 H5398 p5399 => ?_))
      obtain ⟨e5400, w5402, f5403, z5404, e5401, b5405, p5406⟩ := p5399
      subst e5400
      subst e5401
      obtain ⟨a5407, a5408⟩ := p5406
      show WL _ _ _ _ 1312 [(4, vI i), (3, .ref o), (2, .ref m), (1, .ref x), (0, .ref 0)] [vI z5404] _ H5398
      refine wl_of hX hb cL_1312 (rw_pop (pc' := 1313) rfl rfl ?_)
      refine wl_of hX hb cL_1313 (rw_goto (p1 := 1653) (by decide) ?_)
      have k5409 : H5398 x 9 = H5319 x 9 := (f5403 x 9 _ gx rfl)
      have k5410 : H5398 m 6 = H5319 m 6 := (f5403 m 6 _ gm rfl)
      have k5411 : H5398 x 11 = H5319 x 11 := (f5403 x 11 _ gx rfl)
      have k5412 : H5398 m 13 = H5319 m 13 := (f5403 m 13 _ gm rfl)
      have k5413 : H5398 x 8 = H5319 x 8 := (f5403 x 8 _ gx rfl)
      have k5414 : H5398 m 3 = H5319 m 3 := (f5403 m 3 _ gm rfl)
      have k5415 : H5398 x 0 = H x 0 := ((f5403 x 0 _ gx rfl).trans (f5324 x 0 _ gx rfl))
      have q5416 : H5398 x 0 = (tc : Int) := k5415.trans e0
      have k5417 : H5398 m 5 = H m 5 := ((f5403 m 5 _ gm rfl).trans (f5324 m 5 _ gm rfl))
      have q5418 : H5398 m 5 = (tm : Int) := k5417.trans em
      have k5419 : H5398 x 6 = H x 6 := ((f5403 x 6 _ gx rfl).trans (f5324 x 6 _ gx rfl))
      have q5420 : H5398 x 6 = (cu : Int) := k5419.trans ecu
      have k5421 : H5398 x 7 = H x 7 := ((f5403 x 7 _ gx rfl).trans (f5324 x 7 _ gx rfl))
      have q5422 : H5398 x 7 = (dr : Int) := k5421.trans edr
      have h5423 : CEN T H5398 ce8 e8 d8 := (CEN_fr w5323 gce8 f5403 rfl p5327)
      have h5424 : TP T H5398 tc B := (TP_fr w5323 gtc f5403 rfl (TP_fr hW gtc f5324 rfl htc))
      have h5425 : TM T H5398 tm B := (TM_fr w5323 gtm f5403 rfl (TM_fr hW gtm f5324 rfl htm))
      have h5426 : DD T H5398 cu  := (DD_fr w5323 gcu f5403 rfl (DD_fr hW gcu f5324 rfl hcu))
      have h5427 : DD T H5398 dr  := (DD_fr w5323 gdr f5403 rfl (DD_fr hW gdr f5324 rfl hdr))
      have h5428 : DE T H5398 cu  := (DE_fr w5323 gcu f5403 rfl (DE_fr hW gcu f5324 rfl hdec))
      have h5429 : DE T H5398 dr  := (DE_fr w5323 gdr f5403 rfl (DE_fr hW gdr f5324 rfl hded))
      have h5430 : SP T H5398 x C8 := (SP_fr w5323 gx f5403 rfl (SP_fr hW gx f5324 rfl hsp))
      have h5431 : CU T H5398 cu e8 d8 n8 := (CU_fr w5323 gcu f5403 rfl (CU_fr hW gcu f5324 rfl hcu8))
      have h5432 : CY T H5398 cu (d8 0 3) g8 (H cu 17) := (CY_fr w5323 gcu f5403 rfl (CY_fr hW gcu f5324 rfl h5312))
      have k5433 : H5398 x 3 = H x 3 := ((f5403 x 3 _ gx rfl).trans (f5324 x 3 _ gx rfl))
      have q5434 : H5398 x 3 = (ce8 : Int) := k5433.trans ece8
      have h5435 : HDR T H5398 ce8  := (HDR_fr w5323 gce8 f5403 rfl (HDR_fr hW gce8 f5324 rfl hhdr8))
      have h5436 : RY T H5398 m (d8 0 3) g8 (H m 32) := (RY_fr w5323 gm f5403 rfl (RY_fr hW gm f5324 rfl h5313))
      have h5437 : RB T H5398 m e8 d8 := (RB_fr w5323 gm f5403 rfl h5394)
      exact WL.loc hX (by simp) (next T H5398 ⟨⟨w5402, g0, gx, gm, go, by omega, by omega⟩, ⟨_, tc, tm, cu, dr, _, _, _, _, _, ce8, q5416, gtc, h5424, q5418, gtm, h5425, q5420, gcu, q5422, gdr, h5426, h5427, h5428, h5429, h5430, hC1, hC2, h5431, h5437, (h5432).1, (h5436).1, hE, hZ, (by omega), (by assumption), (by omega), (by first | assumption | exact SG_0), q5434, gce8, h5423, h5435, a5408, gm⟩, by omega, by omega⟩ (by omega) (by omega))
set_option maxHeartbeats 4000000 in
theorem wl_c36 {kt : Nat → Option mc_E} {CB SB : Nat} {X : mc_S → Prop} {T : wq_T} {H : wq_H} {Len x m o : Nat} {i : Int} (hX : wlX kt CB SB X) (hb : T.2.1 ≤ CB ∧ T.2.2.1 ≤ SB) (hI : wlJ Len x m o T H) (hL : Len ≤ 3072) (hi : 0 ≤ i ∧ i + 6 ≤ Len) (hb2 : T.2.1 + 20 ≤ CB ∧ T.2.2.1 + 500 ≤ SB)  (next : ∀ T' H', wlJ Len x m o T' H' → T'.2.1 ≤ T.2.1 + 20 → T'.2.2.1 ≤ T.2.2.1 + 500 → WL kt CB SB X 1653 (wlL i x m o) [] T' H') : WL kt CB SB X 1316 (wlL i x m o) [] T H := by
  obtain ⟨⟨hW, g0, gx, gm, go, hK, hr⟩, hXI, hY1, hY2⟩ := hI
  refine wl_of hX hb cL_1316 (rw_aload_n (pc' := 1317) (v := .ref x) rfl rfl rfl ?_)
  obtain ⟨B, tc, tm, cu, dr, C8, e8, d8, n8, g8, ce8, e0, gtc, htc, em, gtm, htm, ecu, gcu, edr, gdr, hcu, hdr, hdec, hded, hsp, hC1, hC2, hcu8, hrb8, hcg8, hmn8, hE, hZ, hn8, hXA, hV8, hSG, ece8, gce8, hcen8, hhdr8, hknn8, -⟩ := hXI
  have hN3 := RB_n3 hrb8
  have hE13 : ∀ h : Nat, h < 24 → 0 ≤ e8 13 h ∧ e8 13 h ≤ 100 := fun k hk => by
    obtain ⟨s, h1, h2, h3⟩ := hcu8.1.2.2.1
    exact ⟨(h3 k hk).1, (h3 k hk).2.1⟩
  have hXW := hXA.1
  have hXN := hXA.2
  have hE0 : e8 0 3 = d8 0 3 ∧ e8 0 0 = d8 0 0 := by
    have h := hE 0 (by decide)
    exact ⟨congrFun h 3, congrFun h 0⟩
  have u5438 := CU_k hcu8
  have h5439 : CY T H cu (d8 0 3) g8 (H cu 17) := ⟨hcg8, rfl⟩
  have h5440 : RY T H m (d8 0 3) g8 (H m 32) := ⟨hmn8, rfl⟩
  obtain ⟨t9, ht9⟩ : ∃ t : Int, t = H x 9 := ⟨_, rfl⟩
  obtain ⟨r5441, q5442, g5443⟩ := hW.ref gx (t' := 6) (n := 13) (j := 2) (p := 0) (q := 0) rfl (by decide) rfl
  refine wl_of hX hb cL_1317 (xc_V (pc' := 1320) (r := x) (as := []) (st := []) (lm_11_171) rfl rfl (Nat.le_of_ble_eq_true rfl) hW gx sh_1 (by decide) rfl (by decide) (u_147 (e := e8) (d := d8) (n := n8) hW gx ecu gcu q5442 g5443 ece8 gce8 (by assumption) (by assumption) (by omega) (by omega) (by omega) (by omega) hcu8 hcen8 hhdr8) (fun R5444 T5445 H5446 p5447 => ?_))
  obtain ⟨e5448, w5450, f5451, z5452, e5449, b5453, p5454⟩ := p5447
  subst e5448
  subst e5449
  show WL _ _ _ _ 1320 [(4, vI i), (3, .ref o), (2, .ref m), (1, .ref x), (0, .ref 0)] [vI z5452] _ H5446
  refine wl_of hX hb cL_1320 (rw_pop (pc' := 1321) rfl rfl ?_)
  refine wl_of hX hb cL_1321 (rw_aload_n (pc' := 1322) (v := .ref m) rfl rfl rfl ?_)
  have k5456 : wKI H5446 m = wKI H m := (wKI_fr hW gm f5451 rfl)
  have k5457 : H5446 x 9 = H x 9 := (f5451 x 9 _ gx rfl)
  have k5458 : H5446 m 6 = H m 6 := (f5451 m 6 _ gm rfl)
  have k5459 : H5446 x 11 = H x 11 := (f5451 x 11 _ gx rfl)
  have k5460 : H5446 m 13 = H m 13 := (f5451 m 13 _ gm rfl)
  have k5461 : H5446 x 8 = H x 8 := (f5451 x 8 _ gx rfl)
  have k5462 : H5446 m 3 = H m 3 := (f5451 m 3 _ gm rfl)
  have h5463 : RB T H5446 m e8 d8 := (RB_fr hW gm f5451 rfl hrb8)
  have h5464 : KNN T H5446 m e8 d8 := (KNN_fr hW gm f5451 rfl hknn8)
  refine wl_of hX hb cL_1322 (xc_V (pc' := 1325) (r := m) (as := []) (st := []) (lm_11_174) rfl rfl (Nat.le_of_ble_eq_true rfl) w5450 gm sh_42 (by decide) rfl (by decide) (u_282 (e := e8) (d := d8) w5450 gm (by omega) (by assumption) (by assumption) (by assumption) (by assumption) h5463 h5464) (fun R5465 T5466 H5467 p5468 => ?_))
  obtain ⟨e5469, w5471, f5472, z5473, e5470, b5474, p5475⟩ := p5468
  subst e5469
  subst e5470
  obtain ⟨a5476, a5477⟩ := p5475
  show WL _ _ _ _ 1325 [(4, vI i), (3, .ref o), (2, .ref m), (1, .ref x), (0, .ref 0)] [vI z5473] _ H5467
  refine wl_of hX hb cL_1325 (rw_pop (pc' := 1326) rfl rfl ?_)
  refine wl_of hX hb cL_1326 (rw_goto (p1 := 1653) (by decide) ?_)
  have k5478 : H5467 x 9 = H5446 x 9 := (f5472 x 9 _ gx rfl)
  have k5479 : H5467 m 6 = H5446 m 6 := (f5472 m 6 _ gm rfl)
  have k5480 : H5467 x 11 = H5446 x 11 := (f5472 x 11 _ gx rfl)
  have k5481 : H5467 m 13 = H5446 m 13 := (f5472 m 13 _ gm rfl)
  have k5482 : H5467 x 8 = H5446 x 8 := (f5472 x 8 _ gx rfl)
  have k5483 : H5467 m 3 = H5446 m 3 := (f5472 m 3 _ gm rfl)
  have k5484 : H5467 x 0 = H x 0 := ((f5472 x 0 _ gx rfl).trans (f5451 x 0 _ gx rfl))
  have q5485 : H5467 x 0 = (tc : Int) := k5484.trans e0
  have k5486 : H5467 m 5 = H m 5 := ((f5472 m 5 _ gm rfl).trans (f5451 m 5 _ gm rfl))
  have q5487 : H5467 m 5 = (tm : Int) := k5486.trans em
  have k5488 : H5467 x 6 = H x 6 := ((f5472 x 6 _ gx rfl).trans (f5451 x 6 _ gx rfl))
  have q5489 : H5467 x 6 = (cu : Int) := k5488.trans ecu
  have k5490 : H5467 x 7 = H x 7 := ((f5472 x 7 _ gx rfl).trans (f5451 x 7 _ gx rfl))
  have q5491 : H5467 x 7 = (dr : Int) := k5490.trans edr
  have h5492 : CEN T H5467 ce8 e8 d8 := (CEN_fr w5450 gce8 f5472 rfl p5454)
  have h5493 : TP T H5467 tc B := (TP_fr w5450 gtc f5472 rfl (TP_fr hW gtc f5451 rfl htc))
  have h5494 : TM T H5467 tm B := (TM_fr w5450 gtm f5472 rfl (TM_fr hW gtm f5451 rfl htm))
  have h5495 : DD T H5467 cu  := (DD_fr w5450 gcu f5472 rfl (DD_fr hW gcu f5451 rfl hcu))
  have h5496 : DD T H5467 dr  := (DD_fr w5450 gdr f5472 rfl (DD_fr hW gdr f5451 rfl hdr))
  have h5497 : DE T H5467 cu  := (DE_fr w5450 gcu f5472 rfl (DE_fr hW gcu f5451 rfl hdec))
  have h5498 : DE T H5467 dr  := (DE_fr w5450 gdr f5472 rfl (DE_fr hW gdr f5451 rfl hded))
  have h5499 : SP T H5467 x C8 := (SP_fr w5450 gx f5472 rfl (SP_fr hW gx f5451 rfl hsp))
  have h5500 : CU T H5467 cu e8 d8 n8 := (CU_fr w5450 gcu f5472 rfl (CU_fr hW gcu f5451 rfl hcu8))
  have h5501 : CY T H5467 cu (d8 0 3) g8 (H cu 17) := (CY_fr w5450 gcu f5472 rfl (CY_fr hW gcu f5451 rfl h5439))
  have k5502 : H5467 x 3 = H x 3 := ((f5472 x 3 _ gx rfl).trans (f5451 x 3 _ gx rfl))
  have q5503 : H5467 x 3 = (ce8 : Int) := k5502.trans ece8
  have h5504 : HDR T H5467 ce8  := (HDR_fr w5450 gce8 f5472 rfl (HDR_fr hW gce8 f5451 rfl hhdr8))
  have h5505 : RY T H5467 m (d8 0 3) g8 (H m 32) := (RY_fr w5450 gm f5472 rfl (RY_fr hW gm f5451 rfl h5440))
  have h5506 : RB T H5467 m e8 d8 := (RB_fr w5450 gm f5472 rfl h5463)
  exact WL.loc hX (by simp) (next T H5467 ⟨⟨w5471, g0, gx, gm, go, by omega, by omega⟩, ⟨_, tc, tm, cu, dr, _, _, _, _, _, ce8, q5485, gtc, h5493, q5487, gtm, h5494, q5489, gcu, q5491, gdr, h5495, h5496, h5497, h5498, h5499, hC1, hC2, h5500, h5506, (h5501).1, (h5505).1, hE, hZ, (by omega), (by assumption), (by omega), (by first | assumption | exact SG_0), q5503, gce8, h5492, h5504, a5477, gm⟩, by omega, by omega⟩ (by omega) (by omega))
