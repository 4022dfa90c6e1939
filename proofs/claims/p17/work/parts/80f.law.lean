/-! THE LAW, GONE ON WITH (own work) -/
set_option maxHeartbeats 4000000 in
theorem wl_c36 {kt : Nat → Option mc_E} {CB SB : Nat} {X : mc_S → Prop} {T : wq_T} {H : wq_H} {Len x m o : Nat} {i : Int} (hX : wlX kt CB SB X) (hb : T.2.1 ≤ CB ∧ T.2.2.1 ≤ SB) (hI : wlJ Len x m o T H) (hL : Len ≤ 3072) (hi : 0 ≤ i ∧ i + 6 ≤ Len) (hb2 : T.2.1 + 20 ≤ CB ∧ T.2.2.1 + 500 ≤ SB)  (next : ∀ T' H', wlJ Len x m o T' H' → T'.2.1 ≤ T.2.1 + 20 → T'.2.2.1 ≤ T.2.2.1 + 500 → WL kt CB SB X 1653 (wlL i x m o) [] T' H') : WL kt CB SB X 1316 (wlL i x m o) [] T H := by
  obtain ⟨⟨hW, g0, gx, gm, go, hK, hr⟩, hXI, hY1, hY2⟩ := hI
  refine wl_of hX hb cL_1316 (rw_aload_n (pc' := 1317) (v := .ref x) rfl rfl rfl ?_)
  obtain ⟨B, tc, tm, cu, dr, C8, e8, d8, n8, g8, ce8, e0, gtc, htc, em, gtm, htm, ecu, gcu, edr, gdr, hcu, hdr, hdec, hded, hsp, hC1, hC2, hcu8, hrb8, hcg8, hmn8, hE, hZ, hn8, hXA, hV8, hSG, ece8, gce8, hcen8, hhdr8, hknn8, -⟩ := hXI
  have hN3 := RB_n3 hrb8
  have hE13 : ∀ h : Nat, h < 24 → 0 ≤ e8 13 h ∧ e8 13 h ≤ 100 := fun k hk => by
    obtain ⟨s, h1, h2, h3⟩ := hcu8.1.2.2.1
    exact ⟨(h3 k hk).1, (h3 k hk).2.1⟩
  have hXW := hXA.1
  have hXN := hXA.2
  have hE0 : e8 0 3 = d8 0 3 ∧ e8 0 0 = d8 0 0 := by
    have h := hE 0 (by decide)
    exact ⟨congrFun h 3, congrFun h 0⟩
  have u4985 := CU_k hcu8
  have h4986 : CY T H cu (d8 0 3) g8 (H cu 17) := ⟨hcg8, rfl⟩
  have h4987 : RY T H m (d8 0 3) g8 (H m 32) := ⟨hmn8, rfl⟩
  obtain ⟨t9, ht9⟩ : ∃ t : Int, t = H x 9 := ⟨_, rfl⟩
  obtain ⟨r4988, q4989, g4990⟩ := hW.ref gx (t' := 6) (n := 13) (j := 2) (p := 0) (q := 0) rfl (by decide) rfl
  refine wl_of hX hb cL_1317 (xc_V (pc' := 1320) (r := x) (as := []) (st := []) (lm_11_171) rfl rfl (Nat.le_of_ble_eq_true rfl) hW gx sh_1 (by decide) rfl (by decide) (u_147 (e := e8) (d := d8) (n := n8) hW gx ecu gcu q4989 g4990 ece8 gce8 (by assumption) (by assumption) (by omega) (by omega) (by omega) (by omega) hcu8 hcen8 hhdr8) (fun R4991 T4992 H4993 p4994 => ?_))
  obtain ⟨e4995, w4997, f4998, z4999, e4996, b5000, p5001⟩ := p4994
  subst e4995
  subst e4996
  show WL _ _ _ _ 1320 [(4, vI i), (3, .ref o), (2, .ref m), (1, .ref x), (0, .ref 0)] [vI z4999] _ H4993
  refine wl_of hX hb cL_1320 (rw_pop (pc' := 1321) rfl rfl ?_)
  refine wl_of hX hb cL_1321 (rw_aload_n (pc' := 1322) (v := .ref m) rfl rfl rfl ?_)
  have k5003 : wKI H4993 m = wKI H m := (wKI_fr hW gm f4998 rfl)
  have k5004 : H4993 x 9 = H x 9 := (f4998 x 9 _ gx rfl)
  have k5005 : H4993 m 6 = H m 6 := (f4998 m 6 _ gm rfl)
  have k5006 : H4993 x 11 = H x 11 := (f4998 x 11 _ gx rfl)
  have k5007 : H4993 m 13 = H m 13 := (f4998 m 13 _ gm rfl)
  have k5008 : H4993 x 8 = H x 8 := (f4998 x 8 _ gx rfl)
  have k5009 : H4993 m 3 = H m 3 := (f4998 m 3 _ gm rfl)
  have h5010 : RB T H4993 m e8 d8 := (RB_fr hW gm f4998 rfl hrb8)
  have h5011 : KNN T H4993 m e8 d8 := (KNN_fr hW gm f4998 rfl hknn8)
  refine wl_of hX hb cL_1322 (xc_V (pc' := 1325) (r := m) (as := []) (st := []) (lm_11_174) rfl rfl (Nat.le_of_ble_eq_true rfl) w4997 gm sh_42 (by decide) rfl (by decide) (u_282 (e := e8) (d := d8) w4997 gm (by omega) (by assumption) (by assumption) (by assumption) (by assumption) h5010 h5011) (fun R5012 T5013 H5014 p5015 => ?_))
  obtain ⟨e5016, w5018, f5019, z5020, e5017, b5021, p5022⟩ := p5015
  subst e5016
  subst e5017
  obtain ⟨a5023, a5024⟩ := p5022
  show WL _ _ _ _ 1325 [(4, vI i), (3, .ref o), (2, .ref m), (1, .ref x), (0, .ref 0)] [vI z5020] _ H5014
  refine wl_of hX hb cL_1325 (rw_pop (pc' := 1326) rfl rfl ?_)
  refine wl_of hX hb cL_1326 (rw_goto (p1 := 1653) (by decide) ?_)
  have k5025 : H5014 x 9 = H4993 x 9 := (f5019 x 9 _ gx rfl)
  have k5026 : H5014 m 6 = H4993 m 6 := (f5019 m 6 _ gm rfl)
  have k5027 : H5014 x 11 = H4993 x 11 := (f5019 x 11 _ gx rfl)
  have k5028 : H5014 m 13 = H4993 m 13 := (f5019 m 13 _ gm rfl)
  have k5029 : H5014 x 8 = H4993 x 8 := (f5019 x 8 _ gx rfl)
  have k5030 : H5014 m 3 = H4993 m 3 := (f5019 m 3 _ gm rfl)
  have k5031 : H5014 x 0 = H x 0 := ((f5019 x 0 _ gx rfl).trans (f4998 x 0 _ gx rfl))
  have q5032 : H5014 x 0 = (tc : Int) := k5031.trans e0
  have k5033 : H5014 m 5 = H m 5 := ((f5019 m 5 _ gm rfl).trans (f4998 m 5 _ gm rfl))
  have q5034 : H5014 m 5 = (tm : Int) := k5033.trans em
  have k5035 : H5014 x 6 = H x 6 := ((f5019 x 6 _ gx rfl).trans (f4998 x 6 _ gx rfl))
  have q5036 : H5014 x 6 = (cu : Int) := k5035.trans ecu
  have k5037 : H5014 x 7 = H x 7 := ((f5019 x 7 _ gx rfl).trans (f4998 x 7 _ gx rfl))
  have q5038 : H5014 x 7 = (dr : Int) := k5037.trans edr
  have h5039 : CEN T H5014 ce8 e8 d8 := (CEN_fr w4997 gce8 f5019 rfl p5001)
  have h5040 : TP T H5014 tc B := (TP_fr w4997 gtc f5019 rfl (TP_fr hW gtc f4998 rfl htc))
  have h5041 : TM T H5014 tm B := (TM_fr w4997 gtm f5019 rfl (TM_fr hW gtm f4998 rfl htm))
  have h5042 : DD T H5014 cu  := (DD_fr w4997 gcu f5019 rfl (DD_fr hW gcu f4998 rfl hcu))
  have h5043 : DD T H5014 dr  := (DD_fr w4997 gdr f5019 rfl (DD_fr hW gdr f4998 rfl hdr))
  have h5044 : DE T H5014 cu  := (DE_fr w4997 gcu f5019 rfl (DE_fr hW gcu f4998 rfl hdec))
  have h5045 : DE T H5014 dr  := (DE_fr w4997 gdr f5019 rfl (DE_fr hW gdr f4998 rfl hded))
  have h5046 : SP T H5014 x C8 := (SP_fr w4997 gx f5019 rfl (SP_fr hW gx f4998 rfl hsp))
  have h5047 : CU T H5014 cu e8 d8 n8 := (CU_fr w4997 gcu f5019 rfl (CU_fr hW gcu f4998 rfl hcu8))
  have h5048 : CY T H5014 cu (d8 0 3) g8 (H cu 17) := (CY_fr w4997 gcu f5019 rfl (CY_fr hW gcu f4998 rfl h4986))
  have k5049 : H5014 x 3 = H x 3 := ((f5019 x 3 _ gx rfl).trans (f4998 x 3 _ gx rfl))
  have q5050 : H5014 x 3 = (ce8 : Int) := k5049.trans ece8
  have h5051 : HDR T H5014 ce8  := (HDR_fr w4997 gce8 f5019 rfl (HDR_fr hW gce8 f4998 rfl hhdr8))
  have h5052 : RY T H5014 m (d8 0 3) g8 (H m 32) := (RY_fr w4997 gm f5019 rfl (RY_fr hW gm f4998 rfl h4987))
  have h5053 : RB T H5014 m e8 d8 := (RB_fr w4997 gm f5019 rfl h5010)
  exact WL.loc hX (by simp) (next T H5014 ⟨⟨w5018, g0, gx, gm, go, by omega, by omega⟩, ⟨_, tc, tm, cu, dr, _, _, _, _, _, ce8, q5032, gtc, h5040, q5034, gtm, h5041, q5036, gcu, q5038, gdr, h5042, h5043, h5044, h5045, h5046, hC1, hC2, h5047, h5053, (h5048).1, (h5052).1, hE, hZ, (by omega), (by assumption), (by omega), (by first | assumption | exact SG_0), q5050, gce8, h5039, h5051, a5024, gm⟩, by omega, by omega⟩ (by omega) (by omega))
set_option maxHeartbeats 4000000 in
theorem wl_c37 {kt : Nat → Option mc_E} {CB SB : Nat} {X : mc_S → Prop} {T : wq_T} {H : wq_H} {Len x m o : Nat} {i : Int} (hX : wlX kt CB SB X) (hb : T.2.1 ≤ CB ∧ T.2.2.1 ≤ SB) (hI : wlJ Len x m o T H) (hL : Len ≤ 3072) (hi : 0 ≤ i ∧ i + 6 ≤ Len) (hb2 : T.2.1 + 20 ≤ CB ∧ T.2.2.1 + 500 ≤ SB)  (next : ∀ T' H', wlJ Len x m o T' H' → T'.2.1 ≤ T.2.1 + 20 → T'.2.2.1 ≤ T.2.2.1 + 500 → WL kt CB SB X 1653 (wlL i x m o) [] T' H') : WL kt CB SB X 1329 (wlL i x m o) [] T H := by
  obtain ⟨⟨hW, g0, gx, gm, go, hK, hr⟩, hXI, hY1, hY2⟩ := hI
  refine wl_of hX hb cL_1329 (rw_aload_n (pc' := 1330) (v := .ref x) rfl rfl rfl ?_)
  refine wl_of hX hb cL_1330 (xc_V (pc' := 1333) (r := x) (as := []) (st := []) (lm_11_175) rfl rfl (Nat.le_of_ble_eq_true rfl) hW gx sh_1 (by decide) rfl (by decide) (s_149 hW gx) (fun R5054 T5055 H5056 p5057 => ?_))
  obtain ⟨e5058, w5060, f5061, z5062, e5059, b5063⟩ := p5057
  subst e5058
  subst e5059
  show WL _ _ _ _ 1333 [(4, vI i), (3, .ref o), (2, .ref m), (1, .ref x), (0, .ref 0)] [vI z5062] _ H5056
  refine wl_of hX hb cL_1333 (rw_pop (pc' := 1334) rfl rfl ?_)
  refine wl_of hX hb cL_1334 (rw_aload_n (pc' := 1335) (v := .ref m) rfl rfl rfl ?_)
  have k5064 : wKI H5056 m = wKI H m := (wKI_fr hW gm f5061 rfl)
  have k5065 : H5056 x 9 = H x 9 := (f5061 x 9 _ gx rfl)
  have k5066 : H5056 m 6 = H m 6 := (f5061 m 6 _ gm rfl)
  have k5067 : H5056 x 11 = H x 11 := (f5061 x 11 _ gx rfl)
  have k5068 : H5056 m 13 = H m 13 := (f5061 m 13 _ gm rfl)
  have k5069 : H5056 x 8 = H x 8 := (f5061 x 8 _ gx rfl)
  have k5070 : H5056 m 3 = H m 3 := (f5061 m 3 _ gm rfl)
  refine wl_of hX hb cL_1335 (xc_V (pc' := 1338) (r := m) (as := []) (st := []) (lm_11_178) rfl rfl (Nat.le_of_ble_eq_true rfl) w5060 gm sh_42 (by decide) rfl (by decide) (s_283 w5060 gm (by omega)) (fun R5071 T5072 H5073 p5074 => ?_))
  obtain ⟨e5075, w5077, f5078, z5080, e5076, b5081, p5079⟩ := p5074
  subst e5075
  subst e5076
  show WL _ _ _ _ 1338 [(4, vI i), (3, .ref o), (2, .ref m), (1, .ref x), (0, .ref 0)] [vI z5080] _ H5073
  refine wl_of hX hb cL_1338 (rw_pop (pc' := 1339) rfl rfl ?_)
  refine wl_of hX hb cL_1339 (rw_goto (p1 := 1653) (by decide) ?_)
  have k5082 : H5073 x 9 = H5056 x 9 := (f5078 x 9 _ gx rfl)
  have k5083 : H5073 m 6 = H5056 m 6 := (f5078 m 6 _ gm rfl)
  have k5084 : H5073 x 11 = H5056 x 11 := (f5078 x 11 _ gx rfl)
  have k5085 : H5073 m 13 = H5056 m 13 := (f5078 m 13 _ gm rfl)
  have k5086 : H5073 x 8 = H5056 x 8 := (f5078 x 8 _ gx rfl)
  have k5087 : H5073 m 3 = H5056 m 3 := (f5078 m 3 _ gm rfl)
  have h5088 : XI T H5073 x m := (XI_fr w5060 gx f5078 rfl (XI_fr hW gx f5061 rfl hXI))
  exact WL.loc hX (by simp) (next T H5073 ⟨⟨w5077, g0, gx, gm, go, by omega, by omega⟩, h5088, by omega, by omega⟩ (by omega) (by omega))
set_option maxHeartbeats 4000000 in
theorem wl_c38 {kt : Nat → Option mc_E} {CB SB : Nat} {X : mc_S → Prop} {T : wq_T} {H : wq_H} {Len x m o : Nat} {i : Int} (hX : wlX kt CB SB X) (hb : T.2.1 ≤ CB ∧ T.2.2.1 ≤ SB) (hI : wlJ Len x m o T H) (hL : Len ≤ 3072) (hi : 0 ≤ i ∧ i + 6 ≤ Len) (hb2 : T.2.1 + 20 ≤ CB ∧ T.2.2.1 + 500 ≤ SB)  (next : ∀ T' H', wlJ Len x m o T' H' → T'.2.1 ≤ T.2.1 + 20 → T'.2.2.1 ≤ T.2.2.1 + 500 → WL kt CB SB X 1653 (wlL i x m o) [] T' H') : WL kt CB SB X 1342 (wlL i x m o) [] T H := by
  obtain ⟨⟨hW, g0, gx, gm, go, hK, hr⟩, hXI, hY1, hY2⟩ := hI
  refine wl_of hX hb cL_1342 (rw_aload_n (pc' := 1343) (v := .ref x) rfl rfl rfl ?_)
  refine wl_of hX hb cL_1343 (rw_aload_n (pc' := 1344) (v := .ref 0) rfl rfl rfl ?_)
  refine wl_of hX hb cL_1344 (rw_iload (pc' := 1346) (z := i) rfl rfl ?_)
  refine wl_of hX hb cL_1346 (rw_iconst (pc' := 1347) rfl ?_)
  refine wl_of hX hb cL_1347 (rw_iadd (pc' := 1348) rfl ?_)
  refine wl_of hX hb cL_1348 (xa_I (so := 0) (pc' := 1349) (a := 0) hW g0 (wsh_s _) (by omega) (wty_s _ _) (by omega) (by omega) rfl (fun b5089 b5090 => ?_))
  refine wl_of hX hb cL_1349 (xc_V (pc' := 1352) (r := x) (as := [vI (H 0 ((i + 1).toNat))]) (st := []) (lm_11_179) rfl rfl (Nat.le_of_ble_eq_true rfl) hW gx sh_1 (by decide) rfl (by decide) (s_152 hW gx ⟨by omega, by omega⟩) (fun R5091 T5092 H5093 p5094 => ?_))
  obtain ⟨e5095, w5097, f5098, z5099, e5096, b5100⟩ := p5094
  subst e5095
  subst e5096
  show WL _ _ _ _ 1352 [(4, vI i), (3, .ref o), (2, .ref m), (1, .ref x), (0, .ref 0)] [vI z5099] _ H5093
  refine wl_of hX hb cL_1352 (rw_pop (pc' := 1353) rfl rfl ?_)
  refine wl_of hX hb cL_1353 (rw_aload_n (pc' := 1354) (v := .ref m) rfl rfl rfl ?_)
  refine wl_of hX hb cL_1354 (rw_aload_n (pc' := 1355) (v := .ref 0) rfl rfl rfl ?_)
  refine wl_of hX hb cL_1355 (rw_iload (pc' := 1357) (z := i) rfl rfl ?_)
  refine wl_of hX hb cL_1357 (rw_iconst (pc' := 1358) rfl ?_)
  refine wl_of hX hb cL_1358 (rw_iadd (pc' := 1359) rfl ?_)
  have k5103 : H5093 0 ((i + 1).toNat) = H 0 ((i + 1).toNat) := (f5098 0 ((i + 1).toNat) _ g0 (wmem_s rfl))
  refine wl_of hX hb cL_1359 (xa_I (so := 0) (pc' := 1360) (a := 0) w5097 g0 (wsh_s _) (by omega) (wty_s _ _) (by omega) (by omega) rfl (fun b5101 b5102 => ?_))
  have k5104 : wKI H5093 m = wKI H m := (wKI_fr hW gm f5098 rfl)
  have k5105 : H5093 x 9 = H x 9 := (f5098 x 9 _ gx rfl)
  have k5106 : H5093 m 6 = H m 6 := (f5098 m 6 _ gm rfl)
  have k5107 : H5093 x 11 = H x 11 := (f5098 x 11 _ gx rfl)
  have k5108 : H5093 m 13 = H m 13 := (f5098 m 13 _ gm rfl)
  have k5109 : H5093 x 8 = H x 8 := (f5098 x 8 _ gx rfl)
  have k5110 : H5093 m 3 = H m 3 := (f5098 m 3 _ gm rfl)
  refine wl_of hX hb cL_1360 (xc_V (pc' := 1363) (r := m) (as := [vI (H5093 0 ((i + 1).toNat))]) (st := []) (lm_11_182) rfl rfl (Nat.le_of_ble_eq_true rfl) w5097 gm sh_42 (by decide) rfl (by decide) (s_284 w5097 gm ⟨by omega, by omega⟩ (by omega)) (fun R5111 T5112 H5113 p5114 => ?_))
  obtain ⟨e5115, w5117, f5118, z5120, e5116, b5121, p5119⟩ := p5114
  subst e5115
  subst e5116
  show WL _ _ _ _ 1363 [(4, vI i), (3, .ref o), (2, .ref m), (1, .ref x), (0, .ref 0)] [vI z5120] _ H5113
  refine wl_of hX hb cL_1363 (rw_pop (pc' := 1364) rfl rfl ?_)
  refine wl_of hX hb cL_1364 (rw_goto (p1 := 1653) (by decide) ?_)
  have k5122 : H5113 x 9 = H5093 x 9 := (f5118 x 9 _ gx rfl)
  have k5123 : H5113 m 6 = H5093 m 6 := (f5118 m 6 _ gm rfl)
  have k5124 : H5113 x 11 = H5093 x 11 := (f5118 x 11 _ gx rfl)
  have k5125 : H5113 m 13 = H5093 m 13 := (f5118 m 13 _ gm rfl)
  have k5126 : H5113 x 8 = H5093 x 8 := (f5118 x 8 _ gx rfl)
  have k5127 : H5113 m 3 = H5093 m 3 := (f5118 m 3 _ gm rfl)
  have h5128 : XI T H5113 x m := (XI_fr w5097 gx f5118 rfl (XI_fr hW gx f5098 rfl hXI))
  exact WL.loc hX (by simp) (next T H5113 ⟨⟨w5117, g0, gx, gm, go, by omega, by omega⟩, h5128, by omega, by omega⟩ (by omega) (by omega))
set_option maxHeartbeats 4000000 in
theorem wl_c39 {kt : Nat → Option mc_E} {CB SB : Nat} {X : mc_S → Prop} {T : wq_T} {H : wq_H} {Len x m o : Nat} {i : Int} (hX : wlX kt CB SB X) (hb : T.2.1 ≤ CB ∧ T.2.2.1 ≤ SB) (hI : wlJ Len x m o T H) (hL : Len ≤ 3072) (hi : 0 ≤ i ∧ i + 6 ≤ Len) (hb2 : T.2.1 + 20 ≤ CB ∧ T.2.2.1 + 500 ≤ SB)  (next : ∀ T' H', wlJ Len x m o T' H' → T'.2.1 ≤ T.2.1 + 20 → T'.2.2.1 ≤ T.2.2.1 + 500 → WL kt CB SB X 1653 (wlL i x m o) [] T' H') : WL kt CB SB X 1367 (wlL i x m o) [] T H := by
  obtain ⟨⟨hW, g0, gx, gm, go, hK, hr⟩, hXI, hY1, hY2⟩ := hI
  refine wl_of hX hb cL_1367 (rw_aload_n (pc' := 1368) (v := .ref x) rfl rfl rfl ?_)
  refine wl_of hX hb cL_1368 (rw_aload_n (pc' := 1369) (v := .ref 0) rfl rfl rfl ?_)
  refine wl_of hX hb cL_1369 (rw_iload (pc' := 1371) (z := i) rfl rfl ?_)
  refine wl_of hX hb cL_1371 (rw_iconst (pc' := 1372) rfl ?_)
  refine wl_of hX hb cL_1372 (rw_iadd (pc' := 1373) rfl ?_)
  refine wl_of hX hb cL_1373 (xa_I (so := 0) (pc' := 1374) (a := 0) hW g0 (wsh_s _) (by omega) (wty_s _ _) (by omega) (by omega) rfl (fun b5129 b5130 => ?_))
  refine wl_of hX hb cL_1374 (rw_aload_n (pc' := 1375) (v := .ref 0) rfl rfl rfl ?_)
  refine wl_of hX hb cL_1375 (rw_iload (pc' := 1377) (z := i) rfl rfl ?_)
  refine wl_of hX hb cL_1377 (rw_iconst (pc' := 1378) rfl ?_)
  refine wl_of hX hb cL_1378 (rw_iadd (pc' := 1379) rfl ?_)
  refine wl_of hX hb cL_1379 (xa_I (so := 0) (pc' := 1380) (a := 0) hW g0 (wsh_s _) (by omega) (wty_s _ _) (by omega) (by omega) rfl (fun b5131 b5132 => ?_))
  obtain ⟨B, tc, tm, cu, dr, C8, e8, d8, n8, g8, ce8, e0, gtc, htc, em, gtm, htm, ecu, gcu, edr, gdr, hcu, hdr, hdec, hded, hsp, hC1, hC2, hcu8, hrb8, hcg8, hmn8, hE, hZ, hn8, hXA, hV8, hSG, ece8, gce8, hcen8, hhdr8, hknn8, -⟩ := hXI
  have hN3 := RB_n3 hrb8
  have hE13 : ∀ h : Nat, h < 24 → 0 ≤ e8 13 h ∧ e8 13 h ≤ 100 := fun k hk => by
    obtain ⟨s, h1, h2, h3⟩ := hcu8.1.2.2.1
    exact ⟨(h3 k hk).1, (h3 k hk).2.1⟩
  have hXW := hXA.1
  have hXN := hXA.2
  have hE0 : e8 0 3 = d8 0 3 ∧ e8 0 0 = d8 0 0 := by
    have h := hE 0 (by decide)
    exact ⟨congrFun h 3, congrFun h 0⟩
  have u5133 := CU_k hcu8
  have h5134 : CY T H cu (d8 0 3) g8 (H cu 17) := ⟨hcg8, rfl⟩
  have h5135 : RY T H m (d8 0 3) g8 (H m 32) := ⟨hmn8, rfl⟩
  obtain ⟨t9, ht9⟩ : ∃ t : Int, t = H x 9 := ⟨_, rfl⟩
  obtain ⟨y9, hy9⟩ : ∃ y : Int, y = H 0 ((i + 2).toNat) := ⟨_, rfl⟩
  refine wl_of hX hb cL_1380 (xc_V (pc' := 1383) (r := x) (as := [vI (H 0 ((i + 1).toNat)), vI (H 0 ((i + 2).toNat))]) (st := []) (lm_11_183) rfl rfl (Nat.le_of_ble_eq_true rfl) hW gx sh_1 (by decide) rfl (by decide) (u_153 (e := e8) (d := d8) (n := n8) (y := ((H 0 ((i + 1).toNat)))) (w := (((H 0 ((i + 2).toNat)) + 1))) hW gx ⟨by omega, by omega⟩ ⟨by omega, by omega⟩ ecu gcu ece8 gce8 (by omega) (by omega) (by omega) (by omega) hcu8 hcen8) (fun R5136 T5137 H5138 p5139 => ?_))
  obtain ⟨e5140, w5142, f5143, z5144, e5141, b5145, p5146⟩ := p5139
  subst e5140
  subst e5141
  rcases p5146 with ⟨a5147, a5148, a5149, a5150⟩ | ⟨a5151, a5152, a5153, a5154, a5155⟩
  · show WL _ _ _ _ 1383 [(4, vI i), (3, .ref o), (2, .ref m), (1, .ref x), (0, .ref 0)] [vI z5144] _ H5138
    have u5156 := CU_k a5149
    refine wl_of hX hb cL_1383 (rw_pop (pc' := 1384) rfl rfl ?_)
    refine wl_of hX hb cL_1384 (rw_aload_n (pc' := 1385) (v := .ref m) rfl rfl rfl ?_)
    refine wl_of hX hb cL_1385 (rw_aload_n (pc' := 1386) (v := .ref 0) rfl rfl rfl ?_)
    refine wl_of hX hb cL_1386 (rw_iload (pc' := 1388) (z := i) rfl rfl ?_)
    refine wl_of hX hb cL_1388 (rw_iconst (pc' := 1389) rfl ?_)
    refine wl_of hX hb cL_1389 (rw_iadd (pc' := 1390) rfl ?_)
    have k5159 : H5138 0 ((i + 1).toNat) = H 0 ((i + 1).toNat) := (f5143 0 ((i + 1).toNat) _ g0 (wmem_s rfl))
    refine wl_of hX hb cL_1390 (xa_I (so := 0) (pc' := 1391) (a := 0) w5142 g0 (wsh_s _) (by omega) (wty_s _ _) (by omega) (by omega) rfl (fun b5157 b5158 => ?_))
    refine wl_of hX hb cL_1391 (rw_aload_n (pc' := 1392) (v := .ref 0) rfl rfl rfl ?_)
    refine wl_of hX hb cL_1392 (rw_iload (pc' := 1394) (z := i) rfl rfl ?_)
    refine wl_of hX hb cL_1394 (rw_iconst (pc' := 1395) rfl ?_)
    refine wl_of hX hb cL_1395 (rw_iadd (pc' := 1396) rfl ?_)
    have k5162 : H5138 0 ((i + 2).toNat) = H 0 ((i + 2).toNat) := (f5143 0 ((i + 2).toNat) _ g0 (wmem_s rfl))
    refine wl_of hX hb cL_1396 (xa_I (so := 0) (pc' := 1397) (a := 0) w5142 g0 (wsh_s _) (by omega) (wty_s _ _) (by omega) (by omega) rfl (fun b5160 b5161 => ?_))
    have k5163 : wKI H5138 m = wKI H m := (wKI_fr hW gm f5143 rfl)
    have k5164 : H5138 x 9 = H x 9 := (f5143 x 9 _ gx rfl)
    have k5165 : H5138 m 6 = H m 6 := (f5143 m 6 _ gm rfl)
    have k5166 : H5138 x 11 = H x 11 := (f5143 x 11 _ gx rfl)
    have k5167 : H5138 m 13 = H m 13 := (f5143 m 13 _ gm rfl)
    have k5168 : H5138 x 8 = H x 8 := (f5143 x 8 _ gx rfl)
    have k5169 : H5138 m 3 = H m 3 := (f5143 m 3 _ gm rfl)
    rw [show H5138 0 ((i + 2).toNat) = H 0 ((i + 2).toNat) by omega]
    rw [show H5138 0 ((i + 1).toNat) = H 0 ((i + 1).toNat) by omega]
    have h5170 : RB T H5138 m e8 d8 := (RB_fr hW gm f5143 rfl hrb8)
    have h5171 : KNN T H5138 m e8 d8 := (KNN_fr hW gm f5143 rfl hknn8)
    refine wl_of hX hb cL_1397 (xc_V (pc' := 1400) (r := m) (as := [vI (H 0 ((i + 1).toNat)), vI (H 0 ((i + 2).toNat))]) (st := []) (lm_11_186) rfl rfl (Nat.le_of_ble_eq_true rfl) w5142 gm sh_42 (by decide) rfl (by decide) (u_285 (e := e8) (d := d8) (y := ((H 0 ((i + 1).toNat)))) (w := (((H 0 ((i + 2).toNat)) + 1))) w5142 gm ⟨by omega, by omega⟩ ⟨by omega, by omega⟩ (by omega) (by omega) (by omega) h5170 h5171) (fun R5172 T5173 H5174 p5175 => ?_))
    obtain ⟨e5176, w5178, f5179, z5180, e5177, b5181, p5182⟩ := p5175
    subst e5176
    subst e5177
    rcases p5182 with ⟨a5183, a5184, a5185, a5186, a5187⟩ | ⟨a5188, a5189, a5190, a5191, a5192⟩
    · show WL _ _ _ _ 1400 [(4, vI i), (3, .ref o), (2, .ref m), (1, .ref x), (0, .ref 0)] [vI z5180] _ H5174
      refine wl_of hX hb cL_1400 (rw_pop (pc' := 1401) rfl rfl ?_)
      refine wl_of hX hb cL_1401 (rw_goto (p1 := 1653) (by decide) ?_)
      have k5193 : H5174 x 9 = H5138 x 9 := (f5179 x 9 _ gx rfl)
      have k5194 : H5174 m 6 = H5138 m 6 := (f5179 m 6 _ gm rfl)
      have k5195 : H5174 x 11 = H5138 x 11 := (f5179 x 11 _ gx rfl)
      have k5196 : H5174 m 13 = H5138 m 13 := (f5179 m 13 _ gm rfl)
      have k5197 : H5174 x 8 = H5138 x 8 := (f5179 x 8 _ gx rfl)
      have k5198 : H5174 m 3 = H5138 m 3 := (f5179 m 3 _ gm rfl)
      have k5199 : H5174 x 0 = H x 0 := ((f5179 x 0 _ gx rfl).trans (f5143 x 0 _ gx rfl))
      have q5200 : H5174 x 0 = (tc : Int) := k5199.trans e0
      have k5201 : H5174 m 5 = H m 5 := ((f5179 m 5 _ gm rfl).trans (f5143 m 5 _ gm rfl))
      have q5202 : H5174 m 5 = (tm : Int) := k5201.trans em
      have k5203 : H5174 x 6 = H x 6 := ((f5179 x 6 _ gx rfl).trans (f5143 x 6 _ gx rfl))
      have q5204 : H5174 x 6 = (cu : Int) := k5203.trans ecu
      have k5205 : H5174 x 7 = H x 7 := ((f5179 x 7 _ gx rfl).trans (f5143 x 7 _ gx rfl))
      have q5206 : H5174 x 7 = (dr : Int) := k5205.trans edr
      have h5207 : CEN T H5174 ce8 e8 d8 := (CEN_fr w5142 gce8 f5179 rfl a5150)
      have h5208 : TP T H5174 tc B := (TP_fr w5142 gtc f5179 rfl (TP_fr hW gtc f5143 rfl htc))
      have h5209 : TM T H5174 tm B := (TM_fr w5142 gtm f5179 rfl (TM_fr hW gtm f5143 rfl htm))
      have h5210 : DD T H5174 cu  := (DD_fr w5142 gcu f5179 rfl (DD_fr hW gcu f5143 rfl hcu))
      have h5211 : DD T H5174 dr  := (DD_fr w5142 gdr f5179 rfl (DD_fr hW gdr f5143 rfl hdr))
      have h5212 : DE T H5174 cu  := (DE_fr w5142 gcu f5179 rfl (DE_fr hW gcu f5143 rfl hdec))
      have h5213 : DE T H5174 dr  := (DE_fr w5142 gdr f5179 rfl (DE_fr hW gdr f5143 rfl hded))
      have h5214 : SP T H5174 x C8 := (SP_fr w5142 gx f5179 rfl (SP_fr hW gx f5143 rfl hsp))
      have h5215 : CU T H5174 cu e8 d8 n8 := (CU_fr w5142 gcu f5179 rfl a5149)
      have h5216 : CY T H5174 cu (d8 0 3) g8 (H cu 17) := (CY_fr w5142 gcu f5179 rfl (CY_fr hW gcu f5143 rfl h5134))
      have k5217 : H5174 x 3 = H x 3 := ((f5179 x 3 _ gx rfl).trans (f5143 x 3 _ gx rfl))
      have q5218 : H5174 x 3 = (ce8 : Int) := k5217.trans ece8
      have h5219 : HDR T H5174 ce8  := (HDR_fr w5142 gce8 f5179 rfl (HDR_fr hW gce8 f5143 rfl hhdr8))
      have h5220 : RY T H5174 m (d8 0 3) g8 (H m 32) := (RY_fr w5142 gm f5179 rfl (RY_fr hW gm f5143 rfl h5135))
      exact WL.loc hX (by simp) (next T H5174 ⟨⟨w5178, g0, gx, gm, go, by omega, by omega⟩, ⟨_, tc, tm, cu, dr, _, _, _, _, _, ce8, q5200, gtc, h5208, q5202, gtm, h5209, q5204, gcu, q5206, gdr, h5210, h5211, h5212, h5213, h5214, hC1, hC2, h5215, a5186, (h5216).1, (h5220).1, hE, hZ, (by omega), (by assumption), (by omega), (by first | assumption | exact SG_0), q5218, gce8, h5207, h5219, a5187, gm⟩, by omega, by omega⟩ (by omega) (by omega))
    · show WL _ _ _ _ 1400 [(4, vI i), (3, .ref o), (2, .ref m), (1, .ref x), (0, .ref 0)] [vI z5180] _ H5174
      refine wl_of hX hb cL_1400 (rw_pop (pc' := 1401) rfl rfl ?_)
      refine wl_of hX hb cL_1401 (rw_goto (p1 := 1653) (by decide) ?_)
      have k5221 : H5174 x 9 = H5138 x 9 := (f5179 x 9 _ gx rfl)
      have k5222 : H5174 m 6 = H5138 m 6 := (f5179 m 6 _ gm rfl)
      have k5223 : H5174 x 11 = H5138 x 11 := (f5179 x 11 _ gx rfl)
      have k5224 : H5174 m 13 = H5138 m 13 := (f5179 m 13 _ gm rfl)
      have k5225 : H5174 x 8 = H5138 x 8 := (f5179 x 8 _ gx rfl)
      have k5226 : H5174 m 3 = H5138 m 3 := (f5179 m 3 _ gm rfl)
      have k5227 : H5174 x 0 = H x 0 := ((f5179 x 0 _ gx rfl).trans (f5143 x 0 _ gx rfl))
      have q5228 : H5174 x 0 = (tc : Int) := k5227.trans e0
      have k5229 : H5174 m 5 = H m 5 := ((f5179 m 5 _ gm rfl).trans (f5143 m 5 _ gm rfl))
      have q5230 : H5174 m 5 = (tm : Int) := k5229.trans em
      have k5231 : H5174 x 6 = H x 6 := ((f5179 x 6 _ gx rfl).trans (f5143 x 6 _ gx rfl))
      have q5232 : H5174 x 6 = (cu : Int) := k5231.trans ecu
      have k5233 : H5174 x 7 = H x 7 := ((f5179 x 7 _ gx rfl).trans (f5143 x 7 _ gx rfl))
      have q5234 : H5174 x 7 = (dr : Int) := k5233.trans edr
      have h5235 : CEN T H5174 ce8 e8 d8 := (CEN_fr w5142 gce8 f5179 rfl a5150)
      have h5236 : TP T H5174 tc B := (TP_fr w5142 gtc f5179 rfl (TP_fr hW gtc f5143 rfl htc))
      have h5237 : TM T H5174 tm B := (TM_fr w5142 gtm f5179 rfl (TM_fr hW gtm f5143 rfl htm))
      have h5238 : DD T H5174 cu  := (DD_fr w5142 gcu f5179 rfl (DD_fr hW gcu f5143 rfl hcu))
      have h5239 : DD T H5174 dr  := (DD_fr w5142 gdr f5179 rfl (DD_fr hW gdr f5143 rfl hdr))
      have h5240 : DE T H5174 cu  := (DE_fr w5142 gcu f5179 rfl (DE_fr hW gcu f5143 rfl hdec))
      have h5241 : DE T H5174 dr  := (DE_fr w5142 gdr f5179 rfl (DE_fr hW gdr f5143 rfl hded))
      have h5242 : SP T H5174 x C8 := (SP_fr w5142 gx f5179 rfl (SP_fr hW gx f5143 rfl hsp))
      have h5243 : CU T H5174 cu e8 d8 n8 := (CU_fr w5142 gcu f5179 rfl a5149)
      have h5244 : CY T H5174 cu (d8 0 3) g8 (H cu 17) := (CY_fr w5142 gcu f5179 rfl (CY_fr hW gcu f5143 rfl h5134))
      have k5245 : H5174 x 3 = H x 3 := ((f5179 x 3 _ gx rfl).trans (f5143 x 3 _ gx rfl))
      have q5246 : H5174 x 3 = (ce8 : Int) := k5245.trans ece8
      have h5247 : HDR T H5174 ce8  := (HDR_fr w5142 gce8 f5179 rfl (HDR_fr hW gce8 f5143 rfl hhdr8))
      exfalso
      omega
  · show WL _ _ _ _ 1383 [(4, vI i), (3, .ref o), (2, .ref m), (1, .ref x), (0, .ref 0)] [vI z5144] _ H5138
    have u5248 := CU_k a5155
    refine wl_of hX hb cL_1383 (rw_pop (pc' := 1384) rfl rfl ?_)
    refine wl_of hX hb cL_1384 (rw_aload_n (pc' := 1385) (v := .ref m) rfl rfl rfl ?_)
    refine wl_of hX hb cL_1385 (rw_aload_n (pc' := 1386) (v := .ref 0) rfl rfl rfl ?_)
    refine wl_of hX hb cL_1386 (rw_iload (pc' := 1388) (z := i) rfl rfl ?_)
    refine wl_of hX hb cL_1388 (rw_iconst (pc' := 1389) rfl ?_)
    refine wl_of hX hb cL_1389 (rw_iadd (pc' := 1390) rfl ?_)
    have k5251 : H5138 0 ((i + 1).toNat) = H 0 ((i + 1).toNat) := (f5143 0 ((i + 1).toNat) _ g0 (wmem_s rfl))
    refine wl_of hX hb cL_1390 (xa_I (so := 0) (pc' := 1391) (a := 0) w5142 g0 (wsh_s _) (by omega) (wty_s _ _) (by omega) (by omega) rfl (fun b5249 b5250 => ?_))
    refine wl_of hX hb cL_1391 (rw_aload_n (pc' := 1392) (v := .ref 0) rfl rfl rfl ?_)
    refine wl_of hX hb cL_1392 (rw_iload (pc' := 1394) (z := i) rfl rfl ?_)
    refine wl_of hX hb cL_1394 (rw_iconst (pc' := 1395) rfl ?_)
    refine wl_of hX hb cL_1395 (rw_iadd (pc' := 1396) rfl ?_)
    have k5254 : H5138 0 ((i + 2).toNat) = H 0 ((i + 2).toNat) := (f5143 0 ((i + 2).toNat) _ g0 (wmem_s rfl))
    refine wl_of hX hb cL_1396 (xa_I (so := 0) (pc' := 1397) (a := 0) w5142 g0 (wsh_s _) (by omega) (wty_s _ _) (by omega) (by omega) rfl (fun b5252 b5253 => ?_))
    have k5255 : wKI H5138 m = wKI H m := (wKI_fr hW gm f5143 rfl)
    have k5256 : H5138 x 9 = H x 9 := (f5143 x 9 _ gx rfl)
    have k5257 : H5138 m 6 = H m 6 := (f5143 m 6 _ gm rfl)
    have k5258 : H5138 x 11 = H x 11 := (f5143 x 11 _ gx rfl)
    have k5259 : H5138 m 13 = H m 13 := (f5143 m 13 _ gm rfl)
    have k5260 : H5138 x 8 = H x 8 := (f5143 x 8 _ gx rfl)
    have k5261 : H5138 m 3 = H m 3 := (f5143 m 3 _ gm rfl)
    rw [show H5138 0 ((i + 2).toNat) = H 0 ((i + 2).toNat) by omega]
    rw [show H5138 0 ((i + 1).toNat) = H 0 ((i + 1).toNat) by omega]
    have h5262 : RB T H5138 m e8 d8 := (RB_fr hW gm f5143 rfl hrb8)
    have h5263 : KNN T H5138 m e8 d8 := (KNN_fr hW gm f5143 rfl hknn8)
    refine wl_of hX hb cL_1397 (xc_V (pc' := 1400) (r := m) (as := [vI (H 0 ((i + 1).toNat)), vI (H 0 ((i + 2).toNat))]) (st := []) (lm_11_186) rfl rfl (Nat.le_of_ble_eq_true rfl) w5142 gm sh_42 (by decide) rfl (by decide) (u_285 (e := e8) (d := d8) (y := ((H 0 ((i + 1).toNat)))) (w := (((H 0 ((i + 2).toNat)) + 1))) w5142 gm ⟨by omega, by omega⟩ ⟨by omega, by omega⟩ (by omega) (by omega) (by omega) h5262 h5263) (fun R5264 T5265 H5266 p5267 => ?_))
    obtain ⟨e5268, w5270, f5271, z5272, e5269, b5273, p5274⟩ := p5267
    subst e5268
    subst e5269
    rcases p5274 with ⟨a5275, a5276, a5277, a5278, a5279⟩ | ⟨a5280, a5281, a5282, a5283, a5284⟩
    · show WL _ _ _ _ 1400 [(4, vI i), (3, .ref o), (2, .ref m), (1, .ref x), (0, .ref 0)] [vI z5272] _ H5266
      refine wl_of hX hb cL_1400 (rw_pop (pc' := 1401) rfl rfl ?_)
      refine wl_of hX hb cL_1401 (rw_goto (p1 := 1653) (by decide) ?_)
      have k5285 : H5266 x 9 = H5138 x 9 := (f5271 x 9 _ gx rfl)
      have k5286 : H5266 m 6 = H5138 m 6 := (f5271 m 6 _ gm rfl)
      have k5287 : H5266 x 11 = H5138 x 11 := (f5271 x 11 _ gx rfl)
      have k5288 : H5266 m 13 = H5138 m 13 := (f5271 m 13 _ gm rfl)
      have k5289 : H5266 x 8 = H5138 x 8 := (f5271 x 8 _ gx rfl)
      have k5290 : H5266 m 3 = H5138 m 3 := (f5271 m 3 _ gm rfl)
      have k5291 : H5266 x 0 = H x 0 := ((f5271 x 0 _ gx rfl).trans (f5143 x 0 _ gx rfl))
      have q5292 : H5266 x 0 = (tc : Int) := k5291.trans e0
      have k5293 : H5266 m 5 = H m 5 := ((f5271 m 5 _ gm rfl).trans (f5143 m 5 _ gm rfl))
      have q5294 : H5266 m 5 = (tm : Int) := k5293.trans em
      have k5295 : H5266 x 6 = H x 6 := ((f5271 x 6 _ gx rfl).trans (f5143 x 6 _ gx rfl))
      have q5296 : H5266 x 6 = (cu : Int) := k5295.trans ecu
      have k5297 : H5266 x 7 = H x 7 := ((f5271 x 7 _ gx rfl).trans (f5143 x 7 _ gx rfl))
      have q5298 : H5266 x 7 = (dr : Int) := k5297.trans edr
      have k5299 : H5266 ce8 9 = H5138 ce8 9 := (f5271 ce8 9 _ gce8 rfl)
      have h5300 : TP T H5266 tc B := (TP_fr w5142 gtc f5271 rfl (TP_fr hW gtc f5143 rfl htc))
      have h5301 : TM T H5266 tm B := (TM_fr w5142 gtm f5271 rfl (TM_fr hW gtm f5143 rfl htm))
      have h5302 : DD T H5266 cu  := (DD_fr w5142 gcu f5271 rfl (DD_fr hW gcu f5143 rfl hcu))
      have h5303 : DD T H5266 dr  := (DD_fr w5142 gdr f5271 rfl (DD_fr hW gdr f5143 rfl hdr))
      have h5304 : DE T H5266 cu  := (DE_fr w5142 gcu f5271 rfl (DE_fr hW gcu f5143 rfl hdec))
      have h5305 : DE T H5266 dr  := (DE_fr w5142 gdr f5271 rfl (DE_fr hW gdr f5143 rfl hded))
      have h5306 : SP T H5266 x C8 := (SP_fr w5142 gx f5271 rfl (SP_fr hW gx f5143 rfl hsp))
      have h5307 : CU T H5266 cu (wq_u e8 13 (((H 0 ((i + 1).toNat)))).toNat (((H 0 ((i + 2).toNat)) + 1))) d8 n8 := (CU_fr w5142 gcu f5271 rfl a5155)
      have h5308 : CY T H5266 cu (d8 0 3) g8 (H cu 17) := (CY_fr w5142 gcu f5271 rfl (CY_fr hW gcu f5143 rfl h5134))
      have k5309 : H5266 x 3 = H x 3 := ((f5271 x 3 _ gx rfl).trans (f5143 x 3 _ gx rfl))
      have q5310 : H5266 x 3 = (ce8 : Int) := k5309.trans ece8
      have h5311 : HDR T H5266 ce8  := (HDR_fr w5142 gce8 f5271 rfl (HDR_fr hW gce8 f5143 rfl hhdr8))
      exfalso
      omega
    · show WL _ _ _ _ 1400 [(4, vI i), (3, .ref o), (2, .ref m), (1, .ref x), (0, .ref 0)] [vI z5272] _ H5266
      refine wl_of hX hb cL_1400 (rw_pop (pc' := 1401) rfl rfl ?_)
      refine wl_of hX hb cL_1401 (rw_goto (p1 := 1653) (by decide) ?_)
      have k5312 : H5266 x 9 = H5138 x 9 := (f5271 x 9 _ gx rfl)
      have k5313 : H5266 m 6 = H5138 m 6 := (f5271 m 6 _ gm rfl)
      have k5314 : H5266 x 11 = H5138 x 11 := (f5271 x 11 _ gx rfl)
      have k5315 : H5266 m 13 = H5138 m 13 := (f5271 m 13 _ gm rfl)
      have k5316 : H5266 x 8 = H5138 x 8 := (f5271 x 8 _ gx rfl)
      have k5317 : H5266 m 3 = H5138 m 3 := (f5271 m 3 _ gm rfl)
      have k5318 : H5266 x 0 = H x 0 := ((f5271 x 0 _ gx rfl).trans (f5143 x 0 _ gx rfl))
      have q5319 : H5266 x 0 = (tc : Int) := k5318.trans e0
      have k5320 : H5266 m 5 = H m 5 := ((f5271 m 5 _ gm rfl).trans (f5143 m 5 _ gm rfl))
      have q5321 : H5266 m 5 = (tm : Int) := k5320.trans em
      have k5322 : H5266 x 6 = H x 6 := ((f5271 x 6 _ gx rfl).trans (f5143 x 6 _ gx rfl))
      have q5323 : H5266 x 6 = (cu : Int) := k5322.trans ecu
      have k5324 : H5266 x 7 = H x 7 := ((f5271 x 7 _ gx rfl).trans (f5143 x 7 _ gx rfl))
      have q5325 : H5266 x 7 = (dr : Int) := k5324.trans edr
      have k5326 : H5266 ce8 9 = H5138 ce8 9 := (f5271 ce8 9 _ gce8 rfl)
      have h5327 : TP T H5266 tc B := (TP_fr w5142 gtc f5271 rfl (TP_fr hW gtc f5143 rfl htc))
      have h5328 : TM T H5266 tm B := (TM_fr w5142 gtm f5271 rfl (TM_fr hW gtm f5143 rfl htm))
      have h5329 : DD T H5266 cu  := (DD_fr w5142 gcu f5271 rfl (DD_fr hW gcu f5143 rfl hcu))
      have h5330 : DD T H5266 dr  := (DD_fr w5142 gdr f5271 rfl (DD_fr hW gdr f5143 rfl hdr))
      have h5331 : DE T H5266 cu  := (DE_fr w5142 gcu f5271 rfl (DE_fr hW gcu f5143 rfl hdec))
      have h5332 : DE T H5266 dr  := (DE_fr w5142 gdr f5271 rfl (DE_fr hW gdr f5143 rfl hded))
      have h5333 : SP T H5266 x C8 := (SP_fr w5142 gx f5271 rfl (SP_fr hW gx f5143 rfl hsp))
      have h5334 : CU T H5266 cu (wq_u e8 13 (((H 0 ((i + 1).toNat)))).toNat (((H 0 ((i + 2).toNat)) + 1))) d8 n8 := (CU_fr w5142 gcu f5271 rfl a5155)
      have h5335 : CY T H5266 cu (d8 0 3) g8 (H cu 17) := (CY_fr w5142 gcu f5271 rfl (CY_fr hW gcu f5143 rfl h5134))
      have k5336 : H5266 x 3 = H x 3 := ((f5271 x 3 _ gx rfl).trans (f5143 x 3 _ gx rfl))
      have q5337 : H5266 x 3 = (ce8 : Int) := k5336.trans ece8
      have h5338 : HDR T H5266 ce8  := (HDR_fr w5142 gce8 f5271 rfl (HDR_fr hW gce8 f5143 rfl hhdr8))
      have h5339 : RY T H5266 m (d8 0 3) g8 (H m 32) := (RY_fr w5142 gm f5271 rfl (RY_fr hW gm f5143 rfl h5135))
      exact WL.loc hX (by simp) (next T H5266 ⟨⟨w5270, g0, gx, gm, go, by omega, by omega⟩, ⟨_, tc, tm, cu, dr, _, _, _, _, _, ce8, q5319, gtc, h5327, q5321, gtm, h5328, q5323, gcu, q5325, gdr, h5329, h5330, h5331, h5332, h5333, hC1, hC2, h5334, a5284, (h5335).1, (h5339).1, (fun i hi => (wq_u_row hi).trans (hE i hi)), (fun h h1 h2 => by rw [wq_u_e2 (fun c => by omega)]; exact hZ h h1 h2), (by omega), (by assumption), (by omega), (by first | assumption | exact SG_0), q5337, gce8, (by first | assumption | exact CEN_new (by omega)), h5338, (by first | assumption | exact KNN_new (by omega)), gm⟩, by omega, by omega⟩ (by omega) (by omega))
set_option maxHeartbeats 4000000 in
theorem wl_c40 {kt : Nat → Option mc_E} {CB SB : Nat} {X : mc_S → Prop} {T : wq_T} {H : wq_H} {Len x m o : Nat} {i : Int} (hX : wlX kt CB SB X) (hb : T.2.1 ≤ CB ∧ T.2.2.1 ≤ SB) (hI : wlJ Len x m o T H) (hL : Len ≤ 3072) (hi : 0 ≤ i ∧ i + 6 ≤ Len) (hb2 : T.2.1 + 20 ≤ CB ∧ T.2.2.1 + 500 ≤ SB)  (next : ∀ T' H', wlJ Len x m o T' H' → T'.2.1 ≤ T.2.1 + 20 → T'.2.2.1 ≤ T.2.2.1 + 500 → WL kt CB SB X 1653 (wlL i x m o) [] T' H') : WL kt CB SB X 1404 (wlL i x m o) [] T H := by
  obtain ⟨⟨hW, g0, gx, gm, go, hK, hr⟩, hXI, hY1, hY2⟩ := hI
  refine wl_of hX hb cL_1404 (rw_aload_n (pc' := 1405) (v := .ref x) rfl rfl rfl ?_)
  refine wl_of hX hb cL_1405 (rw_aload_n (pc' := 1406) (v := .ref 0) rfl rfl rfl ?_)
  refine wl_of hX hb cL_1406 (rw_iload (pc' := 1408) (z := i) rfl rfl ?_)
  refine wl_of hX hb cL_1408 (rw_iconst (pc' := 1409) rfl ?_)
  refine wl_of hX hb cL_1409 (rw_iadd (pc' := 1410) rfl ?_)
  refine wl_of hX hb cL_1410 (xa_I (so := 0) (pc' := 1411) (a := 0) hW g0 (wsh_s _) (by omega) (wty_s _ _) (by omega) (by omega) rfl (fun b5340 b5341 => ?_))
  obtain ⟨B, tc, tm, cu, dr, C8, e8, d8, n8, g8, ce8, e0, gtc, htc, em, gtm, htm, ecu, gcu, edr, gdr, hcu, hdr, hdec, hded, hsp, hC1, hC2, hcu8, hrb8, hcg8, hmn8, hE, hZ, hn8, hXA, hV8, hSG, ece8, gce8, hcen8, hhdr8, hknn8, -⟩ := hXI
  have hN3 := RB_n3 hrb8
  have hE13 : ∀ h : Nat, h < 24 → 0 ≤ e8 13 h ∧ e8 13 h ≤ 100 := fun k hk => by
    obtain ⟨s, h1, h2, h3⟩ := hcu8.1.2.2.1
    exact ⟨(h3 k hk).1, (h3 k hk).2.1⟩
  have hXW := hXA.1
  have hXN := hXA.2
  have hE0 : e8 0 3 = d8 0 3 ∧ e8 0 0 = d8 0 0 := by
    have h := hE 0 (by decide)
    exact ⟨congrFun h 3, congrFun h 0⟩
  have u5342 := CU_k hcu8
  have h5343 : CY T H cu (d8 0 3) g8 (H cu 17) := ⟨hcg8, rfl⟩
  have h5344 : RY T H m (d8 0 3) g8 (H m 32) := ⟨hmn8, rfl⟩
  obtain ⟨t9, ht9⟩ : ∃ t : Int, t = H x 9 := ⟨_, rfl⟩
  obtain ⟨y9, hy9⟩ : ∃ y : Int, y = H 0 ((i + 1).toNat) := ⟨_, rfl⟩
  refine wl_of hX hb cL_1411 (xc_V (pc' := 1414) (r := x) (as := [vI (H 0 ((i + 1).toNat))]) (st := []) (lm_11_187) rfl rfl (Nat.le_of_ble_eq_true rfl) hW gx sh_1 (by decide) rfl (by decide) (u_154 (e := e8) (d := d8) (n := n8) (y := ((H 0 ((i + 1).toNat)))) hW gx ⟨by omega, by omega⟩ ecu gcu ece8 gce8 (by omega) (by omega) (by omega) hcu8 hcen8) (fun R5345 T5346 H5347 p5348 => ?_))
  obtain ⟨e5349, w5351, f5352, z5353, e5350, b5354, p5355⟩ := p5348
  subst e5349
  subst e5350
  rcases p5355 with ⟨a5356, a5357, a5358, a5359, a5360⟩ | ⟨a5361, a5362, a5363, a5364⟩
  · show WL _ _ _ _ 1414 [(4, vI i), (3, .ref o), (2, .ref m), (1, .ref x), (0, .ref 0)] [vI z5353] _ H5347
    have u5365 := CU_k a5360
    refine wl_of hX hb cL_1414 (rw_pop (pc' := 1415) rfl rfl ?_)
    refine wl_of hX hb cL_1415 (rw_aload_n (pc' := 1416) (v := .ref m) rfl rfl rfl ?_)
    refine wl_of hX hb cL_1416 (rw_aload_n (pc' := 1417) (v := .ref 0) rfl rfl rfl ?_)
    refine wl_of hX hb cL_1417 (rw_iload (pc' := 1419) (z := i) rfl rfl ?_)
    refine wl_of hX hb cL_1419 (rw_iconst (pc' := 1420) rfl ?_)
    refine wl_of hX hb cL_1420 (rw_iadd (pc' := 1421) rfl ?_)
    have k5368 : H5347 0 ((i + 1).toNat) = H 0 ((i + 1).toNat) := (f5352 0 ((i + 1).toNat) _ g0 (wmem_s rfl))
    refine wl_of hX hb cL_1421 (xa_I (so := 0) (pc' := 1422) (a := 0) w5351 g0 (wsh_s _) (by omega) (wty_s _ _) (by omega) (by omega) rfl (fun b5366 b5367 => ?_))
    have k5369 : wKI H5347 m = wKI H m := (wKI_fr hW gm f5352 rfl)
    have k5370 : H5347 x 9 = H x 9 := (f5352 x 9 _ gx rfl)
    have k5371 : H5347 m 6 = H m 6 := (f5352 m 6 _ gm rfl)
    have k5372 : H5347 x 11 = H x 11 := (f5352 x 11 _ gx rfl)
    have k5373 : H5347 m 13 = H m 13 := (f5352 m 13 _ gm rfl)
    have k5374 : H5347 x 8 = H x 8 := (f5352 x 8 _ gx rfl)
    have k5375 : H5347 m 3 = H m 3 := (f5352 m 3 _ gm rfl)
    rw [show H5347 0 ((i + 1).toNat) = H 0 ((i + 1).toNat) by omega]
    have h5376 : RB T H5347 m e8 d8 := (RB_fr hW gm f5352 rfl hrb8)
    have h5377 : KNN T H5347 m e8 d8 := (KNN_fr hW gm f5352 rfl hknn8)
    refine wl_of hX hb cL_1422 (xc_V (pc' := 1425) (r := m) (as := [vI (H 0 ((i + 1).toNat))]) (st := []) (lm_11_191) rfl rfl (Nat.le_of_ble_eq_true rfl) w5351 gm sh_42 (by decide) rfl (by decide) (u_286 (e := e8) (d := d8) (y := ((H 0 ((i + 1).toNat)))) w5351 gm ⟨by omega, by omega⟩ (by omega) (by omega) h5376 h5377) (fun R5378 T5379 H5380 p5381 => ?_))
    obtain ⟨e5382, w5384, f5385, z5386, e5383, b5387, p5388⟩ := p5381
    subst e5382
    subst e5383
    rcases p5388 with ⟨a5389, a5390, a5391, a5392, a5393, a5394⟩ | ⟨a5395, a5396, a5397, a5398, a5399⟩
    · show WL _ _ _ _ 1425 [(4, vI i), (3, .ref o), (2, .ref m), (1, .ref x), (0, .ref 0)] [vI z5386] _ H5380
      refine wl_of hX hb cL_1425 (rw_pop (pc' := 1426) rfl rfl ?_)
      refine wl_of hX hb cL_1426 (rw_goto (p1 := 1653) (by decide) ?_)
      have k5400 : H5380 x 9 = H5347 x 9 := (f5385 x 9 _ gx rfl)
      have k5401 : H5380 m 6 = H5347 m 6 := (f5385 m 6 _ gm rfl)
      have k5402 : H5380 x 11 = H5347 x 11 := (f5385 x 11 _ gx rfl)
      have k5403 : H5380 m 13 = H5347 m 13 := (f5385 m 13 _ gm rfl)
      have k5404 : H5380 x 8 = H5347 x 8 := (f5385 x 8 _ gx rfl)
      have k5405 : H5380 m 3 = H5347 m 3 := (f5385 m 3 _ gm rfl)
      have k5406 : H5380 x 0 = H x 0 := ((f5385 x 0 _ gx rfl).trans (f5352 x 0 _ gx rfl))
      have q5407 : H5380 x 0 = (tc : Int) := k5406.trans e0
      have k5408 : H5380 m 5 = H m 5 := ((f5385 m 5 _ gm rfl).trans (f5352 m 5 _ gm rfl))
      have q5409 : H5380 m 5 = (tm : Int) := k5408.trans em
      have k5410 : H5380 x 6 = H x 6 := ((f5385 x 6 _ gx rfl).trans (f5352 x 6 _ gx rfl))
      have q5411 : H5380 x 6 = (cu : Int) := k5410.trans ecu
      have k5412 : H5380 x 7 = H x 7 := ((f5385 x 7 _ gx rfl).trans (f5352 x 7 _ gx rfl))
      have q5413 : H5380 x 7 = (dr : Int) := k5412.trans edr
      have k5414 : H5380 ce8 9 = H5347 ce8 9 := (f5385 ce8 9 _ gce8 rfl)
      have h5415 : TP T H5380 tc B := (TP_fr w5351 gtc f5385 rfl (TP_fr hW gtc f5352 rfl htc))
      have h5416 : TM T H5380 tm B := (TM_fr w5351 gtm f5385 rfl (TM_fr hW gtm f5352 rfl htm))
      have h5417 : DD T H5380 cu  := (DD_fr w5351 gcu f5385 rfl (DD_fr hW gcu f5352 rfl hcu))
      have h5418 : DD T H5380 dr  := (DD_fr w5351 gdr f5385 rfl (DD_fr hW gdr f5352 rfl hdr))
      have h5419 : DE T H5380 cu  := (DE_fr w5351 gcu f5385 rfl (DE_fr hW gcu f5352 rfl hdec))
      have h5420 : DE T H5380 dr  := (DE_fr w5351 gdr f5385 rfl (DE_fr hW gdr f5352 rfl hded))
      have h5421 : SP T H5380 x C8 := (SP_fr w5351 gx f5385 rfl (SP_fr hW gx f5352 rfl hsp))
      have h5422 : CU T H5380 cu (wq_u e8 13 (((H 0 ((i + 1).toNat)))).toNat 0) d8 n8 := (CU_fr w5351 gcu f5385 rfl a5360)
      have h5423 : CY T H5380 cu (d8 0 3) g8 (H cu 17) := (CY_fr w5351 gcu f5385 rfl (CY_fr hW gcu f5352 rfl h5343))
      have k5424 : H5380 x 3 = H x 3 := ((f5385 x 3 _ gx rfl).trans (f5352 x 3 _ gx rfl))
      have q5425 : H5380 x 3 = (ce8 : Int) := k5424.trans ece8
      have h5426 : HDR T H5380 ce8  := (HDR_fr w5351 gce8 f5385 rfl (HDR_fr hW gce8 f5352 rfl hhdr8))
      have h5427 : RY T H5380 m (d8 0 3) g8 (H m 32) := (RY_fr w5351 gm f5385 rfl (RY_fr hW gm f5352 rfl h5344))
      exact WL.loc hX (by simp) (next T H5380 ⟨⟨w5384, g0, gx, gm, go, by omega, by omega⟩, ⟨_, tc, tm, cu, dr, _, _, _, _, _, ce8, q5407, gtc, h5415, q5409, gtm, h5416, q5411, gcu, q5413, gdr, h5417, h5418, h5419, h5420, h5421, hC1, hC2, h5422, a5394, (h5423).1, (h5427).1, (fun i hi => (wq_u_row hi).trans (hE i hi)), (fun h h1 h2 => by rw [wq_u_e2 (fun c => by omega)]; exact hZ h h1 h2), (by omega), (by assumption), (by omega), (by first | assumption | exact SG_0), q5425, gce8, (by first | assumption | exact CEN_new (by omega)), h5426, (by first | assumption | exact KNN_new (by omega)), gm⟩, by omega, by omega⟩ (by omega) (by omega))
    · show WL _ _ _ _ 1425 [(4, vI i), (3, .ref o), (2, .ref m), (1, .ref x), (0, .ref 0)] [vI z5386] _ H5380
      refine wl_of hX hb cL_1425 (rw_pop (pc' := 1426) rfl rfl ?_)
      refine wl_of hX hb cL_1426 (rw_goto (p1 := 1653) (by decide) ?_)
      have k5428 : H5380 x 9 = H5347 x 9 := (f5385 x 9 _ gx rfl)
      have k5429 : H5380 m 6 = H5347 m 6 := (f5385 m 6 _ gm rfl)
      have k5430 : H5380 x 11 = H5347 x 11 := (f5385 x 11 _ gx rfl)
      have k5431 : H5380 m 13 = H5347 m 13 := (f5385 m 13 _ gm rfl)
      have k5432 : H5380 x 8 = H5347 x 8 := (f5385 x 8 _ gx rfl)
      have k5433 : H5380 m 3 = H5347 m 3 := (f5385 m 3 _ gm rfl)
      have k5434 : H5380 x 0 = H x 0 := ((f5385 x 0 _ gx rfl).trans (f5352 x 0 _ gx rfl))
      have q5435 : H5380 x 0 = (tc : Int) := k5434.trans e0
      have k5436 : H5380 m 5 = H m 5 := ((f5385 m 5 _ gm rfl).trans (f5352 m 5 _ gm rfl))
      have q5437 : H5380 m 5 = (tm : Int) := k5436.trans em
      have k5438 : H5380 x 6 = H x 6 := ((f5385 x 6 _ gx rfl).trans (f5352 x 6 _ gx rfl))
      have q5439 : H5380 x 6 = (cu : Int) := k5438.trans ecu
      have k5440 : H5380 x 7 = H x 7 := ((f5385 x 7 _ gx rfl).trans (f5352 x 7 _ gx rfl))
      have q5441 : H5380 x 7 = (dr : Int) := k5440.trans edr
      have k5442 : H5380 ce8 9 = H5347 ce8 9 := (f5385 ce8 9 _ gce8 rfl)
      have h5443 : TP T H5380 tc B := (TP_fr w5351 gtc f5385 rfl (TP_fr hW gtc f5352 rfl htc))
      have h5444 : TM T H5380 tm B := (TM_fr w5351 gtm f5385 rfl (TM_fr hW gtm f5352 rfl htm))
      have h5445 : DD T H5380 cu  := (DD_fr w5351 gcu f5385 rfl (DD_fr hW gcu f5352 rfl hcu))
      have h5446 : DD T H5380 dr  := (DD_fr w5351 gdr f5385 rfl (DD_fr hW gdr f5352 rfl hdr))
      have h5447 : DE T H5380 cu  := (DE_fr w5351 gcu f5385 rfl (DE_fr hW gcu f5352 rfl hdec))
      have h5448 : DE T H5380 dr  := (DE_fr w5351 gdr f5385 rfl (DE_fr hW gdr f5352 rfl hded))
      have h5449 : SP T H5380 x C8 := (SP_fr w5351 gx f5385 rfl (SP_fr hW gx f5352 rfl hsp))
      have h5450 : CU T H5380 cu (wq_u e8 13 (((H 0 ((i + 1).toNat)))).toNat 0) d8 n8 := (CU_fr w5351 gcu f5385 rfl a5360)
      have h5451 : CY T H5380 cu (d8 0 3) g8 (H cu 17) := (CY_fr w5351 gcu f5385 rfl (CY_fr hW gcu f5352 rfl h5343))
      have k5452 : H5380 x 3 = H x 3 := ((f5385 x 3 _ gx rfl).trans (f5352 x 3 _ gx rfl))
      have q5453 : H5380 x 3 = (ce8 : Int) := k5452.trans ece8
      have h5454 : HDR T H5380 ce8  := (HDR_fr w5351 gce8 f5385 rfl (HDR_fr hW gce8 f5352 rfl hhdr8))
      exfalso
      omega
  · show WL _ _ _ _ 1414 [(4, vI i), (3, .ref o), (2, .ref m), (1, .ref x), (0, .ref 0)] [vI z5353] _ H5347
    have u5455 := CU_k a5363
    refine wl_of hX hb cL_1414 (rw_pop (pc' := 1415) rfl rfl ?_)
    refine wl_of hX hb cL_1415 (rw_aload_n (pc' := 1416) (v := .ref m) rfl rfl rfl ?_)
    refine wl_of hX hb cL_1416 (rw_aload_n (pc' := 1417) (v := .ref 0) rfl rfl rfl ?_)
    refine wl_of hX hb cL_1417 (rw_iload (pc' := 1419) (z := i) rfl rfl ?_)
    refine wl_of hX hb cL_1419 (rw_iconst (pc' := 1420) rfl ?_)
    refine wl_of hX hb cL_1420 (rw_iadd (pc' := 1421) rfl ?_)
    have k5458 : H5347 0 ((i + 1).toNat) = H 0 ((i + 1).toNat) := (f5352 0 ((i + 1).toNat) _ g0 (wmem_s rfl))
    refine wl_of hX hb cL_1421 (xa_I (so := 0) (pc' := 1422) (a := 0) w5351 g0 (wsh_s _) (by omega) (wty_s _ _) (by omega) (by omega) rfl (fun b5456 b5457 => ?_))
    have k5459 : wKI H5347 m = wKI H m := (wKI_fr hW gm f5352 rfl)
    have k5460 : H5347 x 9 = H x 9 := (f5352 x 9 _ gx rfl)
    have k5461 : H5347 m 6 = H m 6 := (f5352 m 6 _ gm rfl)
    have k5462 : H5347 x 11 = H x 11 := (f5352 x 11 _ gx rfl)
    have k5463 : H5347 m 13 = H m 13 := (f5352 m 13 _ gm rfl)
    have k5464 : H5347 x 8 = H x 8 := (f5352 x 8 _ gx rfl)
    have k5465 : H5347 m 3 = H m 3 := (f5352 m 3 _ gm rfl)
    rw [show H5347 0 ((i + 1).toNat) = H 0 ((i + 1).toNat) by omega]
    have h5466 : RB T H5347 m e8 d8 := (RB_fr hW gm f5352 rfl hrb8)
    have h5467 : KNN T H5347 m e8 d8 := (KNN_fr hW gm f5352 rfl hknn8)
    refine wl_of hX hb cL_1422 (xc_V (pc' := 1425) (r := m) (as := [vI (H 0 ((i + 1).toNat))]) (st := []) (lm_11_191) rfl rfl (Nat.le_of_ble_eq_true rfl) w5351 gm sh_42 (by decide) rfl (by decide) (u_286 (e := e8) (d := d8) (y := ((H 0 ((i + 1).toNat)))) w5351 gm ⟨by omega, by omega⟩ (by omega) (by omega) h5466 h5467) (fun R5468 T5469 H5470 p5471 => ?_))
    obtain ⟨e5472, w5474, f5475, z5476, e5473, b5477, p5478⟩ := p5471
    subst e5472
    subst e5473
    rcases p5478 with ⟨a5479, a5480, a5481, a5482, a5483, a5484⟩ | ⟨a5485, a5486, a5487, a5488, a5489⟩
    · show WL _ _ _ _ 1425 [(4, vI i), (3, .ref o), (2, .ref m), (1, .ref x), (0, .ref 0)] [vI z5476] _ H5470
      refine wl_of hX hb cL_1425 (rw_pop (pc' := 1426) rfl rfl ?_)
      refine wl_of hX hb cL_1426 (rw_goto (p1 := 1653) (by decide) ?_)
      have k5490 : H5470 x 9 = H5347 x 9 := (f5475 x 9 _ gx rfl)
      have k5491 : H5470 m 6 = H5347 m 6 := (f5475 m 6 _ gm rfl)
      have k5492 : H5470 x 11 = H5347 x 11 := (f5475 x 11 _ gx rfl)
      have k5493 : H5470 m 13 = H5347 m 13 := (f5475 m 13 _ gm rfl)
      have k5494 : H5470 x 8 = H5347 x 8 := (f5475 x 8 _ gx rfl)
      have k5495 : H5470 m 3 = H5347 m 3 := (f5475 m 3 _ gm rfl)
      have k5496 : H5470 x 0 = H x 0 := ((f5475 x 0 _ gx rfl).trans (f5352 x 0 _ gx rfl))
      have q5497 : H5470 x 0 = (tc : Int) := k5496.trans e0
      have k5498 : H5470 m 5 = H m 5 := ((f5475 m 5 _ gm rfl).trans (f5352 m 5 _ gm rfl))
      have q5499 : H5470 m 5 = (tm : Int) := k5498.trans em
      have k5500 : H5470 x 6 = H x 6 := ((f5475 x 6 _ gx rfl).trans (f5352 x 6 _ gx rfl))
      have q5501 : H5470 x 6 = (cu : Int) := k5500.trans ecu
      have k5502 : H5470 x 7 = H x 7 := ((f5475 x 7 _ gx rfl).trans (f5352 x 7 _ gx rfl))
      have q5503 : H5470 x 7 = (dr : Int) := k5502.trans edr
      have h5504 : CEN T H5470 ce8 e8 d8 := (CEN_fr w5351 gce8 f5475 rfl a5364)
      have h5505 : TP T H5470 tc B := (TP_fr w5351 gtc f5475 rfl (TP_fr hW gtc f5352 rfl htc))
      have h5506 : TM T H5470 tm B := (TM_fr w5351 gtm f5475 rfl (TM_fr hW gtm f5352 rfl htm))
      have h5507 : DD T H5470 cu  := (DD_fr w5351 gcu f5475 rfl (DD_fr hW gcu f5352 rfl hcu))
      have h5508 : DD T H5470 dr  := (DD_fr w5351 gdr f5475 rfl (DD_fr hW gdr f5352 rfl hdr))
      have h5509 : DE T H5470 cu  := (DE_fr w5351 gcu f5475 rfl (DE_fr hW gcu f5352 rfl hdec))
      have h5510 : DE T H5470 dr  := (DE_fr w5351 gdr f5475 rfl (DE_fr hW gdr f5352 rfl hded))
      have h5511 : SP T H5470 x C8 := (SP_fr w5351 gx f5475 rfl (SP_fr hW gx f5352 rfl hsp))
      have h5512 : CU T H5470 cu e8 d8 n8 := (CU_fr w5351 gcu f5475 rfl a5363)
      have h5513 : CY T H5470 cu (d8 0 3) g8 (H cu 17) := (CY_fr w5351 gcu f5475 rfl (CY_fr hW gcu f5352 rfl h5343))
      have k5514 : H5470 x 3 = H x 3 := ((f5475 x 3 _ gx rfl).trans (f5352 x 3 _ gx rfl))
      have q5515 : H5470 x 3 = (ce8 : Int) := k5514.trans ece8
      have h5516 : HDR T H5470 ce8  := (HDR_fr w5351 gce8 f5475 rfl (HDR_fr hW gce8 f5352 rfl hhdr8))
      exfalso
      omega
    · show WL _ _ _ _ 1425 [(4, vI i), (3, .ref o), (2, .ref m), (1, .ref x), (0, .ref 0)] [vI z5476] _ H5470
      refine wl_of hX hb cL_1425 (rw_pop (pc' := 1426) rfl rfl ?_)
      refine wl_of hX hb cL_1426 (rw_goto (p1 := 1653) (by decide) ?_)
      have k5517 : H5470 x 9 = H5347 x 9 := (f5475 x 9 _ gx rfl)
      have k5518 : H5470 m 6 = H5347 m 6 := (f5475 m 6 _ gm rfl)
      have k5519 : H5470 x 11 = H5347 x 11 := (f5475 x 11 _ gx rfl)
      have k5520 : H5470 m 13 = H5347 m 13 := (f5475 m 13 _ gm rfl)
      have k5521 : H5470 x 8 = H5347 x 8 := (f5475 x 8 _ gx rfl)
      have k5522 : H5470 m 3 = H5347 m 3 := (f5475 m 3 _ gm rfl)
      have k5523 : H5470 x 0 = H x 0 := ((f5475 x 0 _ gx rfl).trans (f5352 x 0 _ gx rfl))
      have q5524 : H5470 x 0 = (tc : Int) := k5523.trans e0
      have k5525 : H5470 m 5 = H m 5 := ((f5475 m 5 _ gm rfl).trans (f5352 m 5 _ gm rfl))
      have q5526 : H5470 m 5 = (tm : Int) := k5525.trans em
      have k5527 : H5470 x 6 = H x 6 := ((f5475 x 6 _ gx rfl).trans (f5352 x 6 _ gx rfl))
      have q5528 : H5470 x 6 = (cu : Int) := k5527.trans ecu
      have k5529 : H5470 x 7 = H x 7 := ((f5475 x 7 _ gx rfl).trans (f5352 x 7 _ gx rfl))
      have q5530 : H5470 x 7 = (dr : Int) := k5529.trans edr
      have h5531 : CEN T H5470 ce8 e8 d8 := (CEN_fr w5351 gce8 f5475 rfl a5364)
      have h5532 : TP T H5470 tc B := (TP_fr w5351 gtc f5475 rfl (TP_fr hW gtc f5352 rfl htc))
      have h5533 : TM T H5470 tm B := (TM_fr w5351 gtm f5475 rfl (TM_fr hW gtm f5352 rfl htm))
      have h5534 : DD T H5470 cu  := (DD_fr w5351 gcu f5475 rfl (DD_fr hW gcu f5352 rfl hcu))
      have h5535 : DD T H5470 dr  := (DD_fr w5351 gdr f5475 rfl (DD_fr hW gdr f5352 rfl hdr))
      have h5536 : DE T H5470 cu  := (DE_fr w5351 gcu f5475 rfl (DE_fr hW gcu f5352 rfl hdec))
      have h5537 : DE T H5470 dr  := (DE_fr w5351 gdr f5475 rfl (DE_fr hW gdr f5352 rfl hded))
      have h5538 : SP T H5470 x C8 := (SP_fr w5351 gx f5475 rfl (SP_fr hW gx f5352 rfl hsp))
      have h5539 : CU T H5470 cu e8 d8 n8 := (CU_fr w5351 gcu f5475 rfl a5363)
      have h5540 : CY T H5470 cu (d8 0 3) g8 (H cu 17) := (CY_fr w5351 gcu f5475 rfl (CY_fr hW gcu f5352 rfl h5343))
      have k5541 : H5470 x 3 = H x 3 := ((f5475 x 3 _ gx rfl).trans (f5352 x 3 _ gx rfl))
      have q5542 : H5470 x 3 = (ce8 : Int) := k5541.trans ece8
      have h5543 : HDR T H5470 ce8  := (HDR_fr w5351 gce8 f5475 rfl (HDR_fr hW gce8 f5352 rfl hhdr8))
      have h5544 : RY T H5470 m (d8 0 3) g8 (H m 32) := (RY_fr w5351 gm f5475 rfl (RY_fr hW gm f5352 rfl h5344))
      exact WL.loc hX (by simp) (next T H5470 ⟨⟨w5474, g0, gx, gm, go, by omega, by omega⟩, ⟨_, tc, tm, cu, dr, _, _, _, _, _, ce8, q5524, gtc, h5532, q5526, gtm, h5533, q5528, gcu, q5530, gdr, h5534, h5535, h5536, h5537, h5538, hC1, hC2, h5539, a5488, (h5540).1, (h5544).1, hE, hZ, (by omega), (by assumption), (by omega), (by first | assumption | exact SG_0), q5542, gce8, h5531, h5543, a5489, gm⟩, by omega, by omega⟩ (by omega) (by omega))
set_option maxHeartbeats 4000000 in
theorem wl_c41 {kt : Nat → Option mc_E} {CB SB : Nat} {X : mc_S → Prop} {T : wq_T} {H : wq_H} {Len x m o : Nat} {i : Int} (hX : wlX kt CB SB X) (hb : T.2.1 ≤ CB ∧ T.2.2.1 ≤ SB) (hI : wlJ Len x m o T H) (hL : Len ≤ 3072) (hi : 0 ≤ i ∧ i + 6 ≤ Len) (hb2 : T.2.1 + 20 ≤ CB ∧ T.2.2.1 + 500 ≤ SB)  (next : ∀ T' H', wlJ Len x m o T' H' → T'.2.1 ≤ T.2.1 + 20 → T'.2.2.1 ≤ T.2.2.1 + 500 → WL kt CB SB X 1653 (wlL i x m o) [] T' H') : WL kt CB SB X 1429 (wlL i x m o) [] T H := by
  obtain ⟨⟨hW, g0, gx, gm, go, hK, hr⟩, hXI, hY1, hY2⟩ := hI
  refine wl_of hX hb cL_1429 (rw_aload_n (pc' := 1430) (v := .ref x) rfl rfl rfl ?_)
  refine wl_of hX hb cL_1430 (rw_aload_n (pc' := 1431) (v := .ref 0) rfl rfl rfl ?_)
  refine wl_of hX hb cL_1431 (rw_iload (pc' := 1433) (z := i) rfl rfl ?_)
  refine wl_of hX hb cL_1433 (rw_iconst (pc' := 1434) rfl ?_)
  refine wl_of hX hb cL_1434 (rw_iadd (pc' := 1435) rfl ?_)
  refine wl_of hX hb cL_1435 (xa_I (so := 0) (pc' := 1436) (a := 0) hW g0 (wsh_s _) (by omega) (wty_s _ _) (by omega) (by omega) rfl (fun b5545 b5546 => ?_))
  refine wl_of hX hb cL_1436 (xc_V (pc' := 1439) (r := x) (as := [vI (H 0 ((i + 1).toNat))]) (st := []) (lm_11_192) rfl rfl (Nat.le_of_ble_eq_true rfl) hW gx sh_1 (by decide) rfl (by decide) (s_155 hW gx ⟨by omega, by omega⟩) (fun R5547 T5548 H5549 p5550 => ?_))
  obtain ⟨e5551, w5553, f5554, z5555, e5552, b5556⟩ := p5550
  subst e5551
  subst e5552
  show WL _ _ _ _ 1439 [(4, vI i), (3, .ref o), (2, .ref m), (1, .ref x), (0, .ref 0)] [vI z5555] _ H5549
  refine wl_of hX hb cL_1439 (rw_pop (pc' := 1440) rfl rfl ?_)
  refine wl_of hX hb cL_1440 (rw_aload_n (pc' := 1441) (v := .ref m) rfl rfl rfl ?_)
  refine wl_of hX hb cL_1441 (rw_aload_n (pc' := 1442) (v := .ref 0) rfl rfl rfl ?_)
  refine wl_of hX hb cL_1442 (rw_iload (pc' := 1444) (z := i) rfl rfl ?_)
  refine wl_of hX hb cL_1444 (rw_iconst (pc' := 1445) rfl ?_)
  refine wl_of hX hb cL_1445 (rw_iadd (pc' := 1446) rfl ?_)
  have k5559 : H5549 0 ((i + 1).toNat) = H 0 ((i + 1).toNat) := (f5554 0 ((i + 1).toNat) _ g0 (wmem_s rfl))
  refine wl_of hX hb cL_1446 (xa_I (so := 0) (pc' := 1447) (a := 0) w5553 g0 (wsh_s _) (by omega) (wty_s _ _) (by omega) (by omega) rfl (fun b5557 b5558 => ?_))
  have k5560 : wKI H5549 m = wKI H m := (wKI_fr hW gm f5554 rfl)
  have k5561 : H5549 x 9 = H x 9 := (f5554 x 9 _ gx rfl)
  have k5562 : H5549 m 6 = H m 6 := (f5554 m 6 _ gm rfl)
  have k5563 : H5549 x 11 = H x 11 := (f5554 x 11 _ gx rfl)
  have k5564 : H5549 m 13 = H m 13 := (f5554 m 13 _ gm rfl)
  have k5565 : H5549 x 8 = H x 8 := (f5554 x 8 _ gx rfl)
  have k5566 : H5549 m 3 = H m 3 := (f5554 m 3 _ gm rfl)
  refine wl_of hX hb cL_1447 (xc_V (pc' := 1450) (r := m) (as := [vI (H5549 0 ((i + 1).toNat))]) (st := []) (lm_11_195) rfl rfl (Nat.le_of_ble_eq_true rfl) w5553 gm sh_42 (by decide) rfl (by decide) (s_287 w5553 gm ⟨by omega, by omega⟩ (by omega)) (fun R5567 T5568 H5569 p5570 => ?_))
  obtain ⟨e5571, w5573, f5574, z5576, e5572, b5577, p5575⟩ := p5570
  subst e5571
  subst e5572
  show WL _ _ _ _ 1450 [(4, vI i), (3, .ref o), (2, .ref m), (1, .ref x), (0, .ref 0)] [vI z5576] _ H5569
  refine wl_of hX hb cL_1450 (rw_pop (pc' := 1451) rfl rfl ?_)
  refine wl_of hX hb cL_1451 (rw_goto (p1 := 1653) (by decide) ?_)
  have k5578 : H5569 x 9 = H5549 x 9 := (f5574 x 9 _ gx rfl)
  have k5579 : H5569 m 6 = H5549 m 6 := (f5574 m 6 _ gm rfl)
  have k5580 : H5569 x 11 = H5549 x 11 := (f5574 x 11 _ gx rfl)
  have k5581 : H5569 m 13 = H5549 m 13 := (f5574 m 13 _ gm rfl)
  have k5582 : H5569 x 8 = H5549 x 8 := (f5574 x 8 _ gx rfl)
  have k5583 : H5569 m 3 = H5549 m 3 := (f5574 m 3 _ gm rfl)
  have h5584 : XI T H5569 x m := (XI_fr w5553 gx f5574 rfl (XI_fr hW gx f5554 rfl hXI))
  exact WL.loc hX (by simp) (next T H5569 ⟨⟨w5573, g0, gx, gm, go, by omega, by omega⟩, h5584, by omega, by omega⟩ (by omega) (by omega))
set_option maxHeartbeats 4000000 in
theorem wl_c42 {kt : Nat → Option mc_E} {CB SB : Nat} {X : mc_S → Prop} {T : wq_T} {H : wq_H} {Len x m o : Nat} {i : Int} (hX : wlX kt CB SB X) (hb : T.2.1 ≤ CB ∧ T.2.2.1 ≤ SB) (hI : wlJ Len x m o T H) (hL : Len ≤ 3072) (hi : 0 ≤ i ∧ i + 6 ≤ Len) (hb2 : T.2.1 + 20 ≤ CB ∧ T.2.2.1 + 500 ≤ SB)  (next : ∀ T' H', wlJ Len x m o T' H' → T'.2.1 ≤ T.2.1 + 20 → T'.2.2.1 ≤ T.2.2.1 + 500 → WL kt CB SB X 1653 (wlL i x m o) [] T' H') : WL kt CB SB X 1454 (wlL i x m o) [] T H := by
  obtain ⟨⟨hW, g0, gx, gm, go, hK, hr⟩, hXI, hY1, hY2⟩ := hI
  refine wl_of hX hb cL_1454 (rw_aload_n (pc' := 1455) (v := .ref x) rfl rfl rfl ?_)
  obtain ⟨B, tc, tm, cu, dr, C8, e8, d8, n8, g8, ce8, e0, gtc, htc, em, gtm, htm, ecu, gcu, edr, gdr, hcu, hdr, hdec, hded, hsp, hC1, hC2, hcu8, hrb8, hcg8, hmn8, hE, hZ, hn8, hXA, hV8, hSG, ece8, gce8, hcen8, hhdr8, hknn8, -⟩ := hXI
  have hN3 := RB_n3 hrb8
  have hE13 : ∀ h : Nat, h < 24 → 0 ≤ e8 13 h ∧ e8 13 h ≤ 100 := fun k hk => by
    obtain ⟨s, h1, h2, h3⟩ := hcu8.1.2.2.1
    exact ⟨(h3 k hk).1, (h3 k hk).2.1⟩
  have hXW := hXA.1
  have hXN := hXA.2
  have hE0 : e8 0 3 = d8 0 3 ∧ e8 0 0 = d8 0 0 := by
    have h := hE 0 (by decide)
    exact ⟨congrFun h 3, congrFun h 0⟩
  have u5585 := CU_k hcu8
  have h5586 : CY T H cu (d8 0 3) g8 (H cu 17) := ⟨hcg8, rfl⟩
  have h5587 : RY T H m (d8 0 3) g8 (H m 32) := ⟨hmn8, rfl⟩
  obtain ⟨t9, ht9⟩ : ∃ t : Int, t = H x 9 := ⟨_, rfl⟩
  obtain ⟨r5588, q5589, g5590⟩ := hW.ref gx (t' := 6) (n := 13) (j := 2) (p := 0) (q := 0) rfl (by decide) rfl
  refine wl_of hX hb cL_1455 (xc_V (pc' := 1458) (r := x) (as := []) (st := []) (lm_11_196) rfl rfl (Nat.le_of_ble_eq_true rfl) hW gx sh_1 (by decide) rfl (by decide) (u_156 (e := e8) (d := d8) (n := n8) hW gx ecu gcu q5589 g5590 ece8 gce8 (by assumption) (by assumption) (by omega) (by omega) (by omega) (by omega) hcu8 hcen8 hhdr8) (fun R5591 T5592 H5593 p5594 => ?_))
  obtain ⟨e5595, w5597, f5598, z5599, e5596, b5600, p5601⟩ := p5594
  subst e5595
  subst e5596
  show WL _ _ _ _ 1458 [(4, vI i), (3, .ref o), (2, .ref m), (1, .ref x), (0, .ref 0)] [vI z5599] _ H5593
  refine wl_of hX hb cL_1458 (rw_pop (pc' := 1459) rfl rfl ?_)
  refine wl_of hX hb cL_1459 (rw_aload_n (pc' := 1460) (v := .ref m) rfl rfl rfl ?_)
  have k5603 : wKI H5593 m = wKI H m := (wKI_fr hW gm f5598 rfl)
  have k5604 : H5593 x 9 = H x 9 := (f5598 x 9 _ gx rfl)
  have k5605 : H5593 m 6 = H m 6 := (f5598 m 6 _ gm rfl)
  have k5606 : H5593 x 11 = H x 11 := (f5598 x 11 _ gx rfl)
  have k5607 : H5593 m 13 = H m 13 := (f5598 m 13 _ gm rfl)
  have k5608 : H5593 x 8 = H x 8 := (f5598 x 8 _ gx rfl)
  have k5609 : H5593 m 3 = H m 3 := (f5598 m 3 _ gm rfl)
  have h5610 : RB T H5593 m e8 d8 := (RB_fr hW gm f5598 rfl hrb8)
  have h5611 : KNN T H5593 m e8 d8 := (KNN_fr hW gm f5598 rfl hknn8)
  refine wl_of hX hb cL_1460 (xc_V (pc' := 1463) (r := m) (as := []) (st := []) (lm_11_199) rfl rfl (Nat.le_of_ble_eq_true rfl) w5597 gm sh_42 (by decide) rfl (by decide) (u_288 (e := e8) (d := d8) w5597 gm (by omega) (by assumption) (by assumption) (by assumption) (by assumption) h5610 h5611) (fun R5612 T5613 H5614 p5615 => ?_))
  obtain ⟨e5616, w5618, f5619, z5620, e5617, b5621, p5622⟩ := p5615
  subst e5616
  subst e5617
  obtain ⟨a5623, a5624⟩ := p5622
  show WL _ _ _ _ 1463 [(4, vI i), (3, .ref o), (2, .ref m), (1, .ref x), (0, .ref 0)] [vI z5620] _ H5614
  refine wl_of hX hb cL_1463 (rw_pop (pc' := 1464) rfl rfl ?_)
  refine wl_of hX hb cL_1464 (rw_goto (p1 := 1653) (by decide) ?_)
  have k5625 : H5614 x 9 = H5593 x 9 := (f5619 x 9 _ gx rfl)
  have k5626 : H5614 m 6 = H5593 m 6 := (f5619 m 6 _ gm rfl)
  have k5627 : H5614 x 11 = H5593 x 11 := (f5619 x 11 _ gx rfl)
  have k5628 : H5614 m 13 = H5593 m 13 := (f5619 m 13 _ gm rfl)
  have k5629 : H5614 x 8 = H5593 x 8 := (f5619 x 8 _ gx rfl)
  have k5630 : H5614 m 3 = H5593 m 3 := (f5619 m 3 _ gm rfl)
  have k5631 : H5614 x 0 = H x 0 := ((f5619 x 0 _ gx rfl).trans (f5598 x 0 _ gx rfl))
  have q5632 : H5614 x 0 = (tc : Int) := k5631.trans e0
  have k5633 : H5614 m 5 = H m 5 := ((f5619 m 5 _ gm rfl).trans (f5598 m 5 _ gm rfl))
  have q5634 : H5614 m 5 = (tm : Int) := k5633.trans em
  have k5635 : H5614 x 6 = H x 6 := ((f5619 x 6 _ gx rfl).trans (f5598 x 6 _ gx rfl))
  have q5636 : H5614 x 6 = (cu : Int) := k5635.trans ecu
  have k5637 : H5614 x 7 = H x 7 := ((f5619 x 7 _ gx rfl).trans (f5598 x 7 _ gx rfl))
  have q5638 : H5614 x 7 = (dr : Int) := k5637.trans edr
  have h5639 : CEN T H5614 ce8 e8 d8 := (CEN_fr w5597 gce8 f5619 rfl p5601)
  have h5640 : TP T H5614 tc B := (TP_fr w5597 gtc f5619 rfl (TP_fr hW gtc f5598 rfl htc))
  have h5641 : TM T H5614 tm B := (TM_fr w5597 gtm f5619 rfl (TM_fr hW gtm f5598 rfl htm))
  have h5642 : DD T H5614 cu  := (DD_fr w5597 gcu f5619 rfl (DD_fr hW gcu f5598 rfl hcu))
  have h5643 : DD T H5614 dr  := (DD_fr w5597 gdr f5619 rfl (DD_fr hW gdr f5598 rfl hdr))
  have h5644 : DE T H5614 cu  := (DE_fr w5597 gcu f5619 rfl (DE_fr hW gcu f5598 rfl hdec))
  have h5645 : DE T H5614 dr  := (DE_fr w5597 gdr f5619 rfl (DE_fr hW gdr f5598 rfl hded))
  have h5646 : SP T H5614 x C8 := (SP_fr w5597 gx f5619 rfl (SP_fr hW gx f5598 rfl hsp))
  have h5647 : CU T H5614 cu e8 d8 n8 := (CU_fr w5597 gcu f5619 rfl (CU_fr hW gcu f5598 rfl hcu8))
  have h5648 : CG T H5614 cu (d8 0 3) g8 := (CG_fr w5597 gcu f5619 rfl (CG_fr hW gcu f5598 rfl hcg8))
  have k5649 : H5614 x 3 = H x 3 := ((f5619 x 3 _ gx rfl).trans (f5598 x 3 _ gx rfl))
  have q5650 : H5614 x 3 = (ce8 : Int) := k5649.trans ece8
  have h5651 : HDR T H5614 ce8  := (HDR_fr w5597 gce8 f5619 rfl (HDR_fr hW gce8 f5598 rfl hhdr8))
  have h5652 : MN26 T H5614 m (d8 0 3) g8 := (MN26_fr w5597 gm f5619 rfl (MN26_fr hW gm f5598 rfl hmn8))
  have h5653 : RB T H5614 m e8 d8 := (RB_fr w5597 gm f5619 rfl h5610)
  exact WL.loc hX (by simp) (next T H5614 ⟨⟨w5618, g0, gx, gm, go, by omega, by omega⟩, ⟨_, tc, tm, cu, dr, _, _, _, _, _, ce8, q5632, gtc, h5640, q5634, gtm, h5641, q5636, gcu, q5638, gdr, h5642, h5643, h5644, h5645, h5646, hC1, hC2, h5647, h5653, h5648, h5652, hE, hZ, (by omega), (by assumption), (by omega), (by first | assumption | exact SG_0), q5650, gce8, h5639, h5651, a5624, gm⟩, by omega, by omega⟩ (by omega) (by omega))
