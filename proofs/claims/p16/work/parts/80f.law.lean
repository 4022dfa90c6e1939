/-! THE LAW, GONE ON WITH (own work) -/
set_option maxHeartbeats 4000000 in
theorem wl_c36 {kt : Nat → Option mc_E} {CB SB : Nat} {X : mc_S → Prop} {T : wq_T} {H : wq_H} {Len x m o : Nat} {i : Int} (hX : wlX kt CB SB X) (hb : T.2.1 ≤ CB ∧ T.2.2.1 ≤ SB) (hI : wlJ Len x m o T H) (hL : Len ≤ 3072) (hi : 0 ≤ i ∧ i + 6 ≤ Len) (hb2 : T.2.1 + 20 ≤ CB ∧ T.2.2.1 + 500 ≤ SB)  (next : ∀ T' H', wlJ Len x m o T' H' → T'.2.1 ≤ T.2.1 + 20 → T'.2.2.1 ≤ T.2.2.1 + 500 → WL kt CB SB X 1653 (wlL i x m o) [] T' H') : WL kt CB SB X 1316 (wlL i x m o) [] T H := by
  obtain ⟨⟨hW, g0, gx, gm, go, hK, hr⟩, hXI, hY1, hY2⟩ := hI
  refine wl_of hX hb cL_1316 (rw_aload_n (pc' := 1317) (v := .ref x) rfl rfl rfl ?_)
  obtain ⟨B, tc, tm, cu, dr, C8, e8, d8, n8, g8, ce8, e0, gtc, htc, em, gtm, htm, ecu, gcu, edr, gdr, hcu, hdr, hdec, hded, hsp, hC1, hC2, hcu8, hrb8, hcg8, hmn8, hE, hZ, hn8, hXA, hV8, hSG, ece8, gce8, hcen8, hhdr8, hknn8, -⟩ := hXI
  have hN3 := RB_n3 hrb8
  have hE13 : ∀ h : Nat, h < 24 → 0 ≤ e8 13 h ∧ e8 13 h ≤ 100 := fun k hk => by
    obtain ⟨s, h1, h2, h3⟩ := hcu8.1.2.2.1
    exact ⟨(h3 k hk).1, (h3 k hk).2.1⟩
  have hXW := hXA.1
  have hXN := hXA.2
  have hE0 : e8 0 3 = d8 0 3 ∧ e8 0 0 = d8 0 0 := by
    have h := hE 0 (by decide)
    exact ⟨congrFun h 3, congrFun h 0⟩
  have u5043 := CU_k hcu8
  have h5044 : CY T H cu (d8 0 3) g8 (H cu 17) := ⟨hcg8, rfl⟩
  have h5045 : RY T H m (d8 0 3) g8 (H m 32) := ⟨hmn8, rfl⟩
  obtain ⟨t9, ht9⟩ : ∃ t : Int, t = H x 9 := ⟨_, rfl⟩
  obtain ⟨r5046, q5047, g5048⟩ := hW.ref gx (t' := 6) (n := 13) (j := 2) (p := 0) (q := 0) rfl (by decide) rfl
  refine wl_of hX hb cL_1317 (xc_V (pc' := 1320) (r := x) (as := []) (st := []) (lm_11_171) rfl rfl (Nat.le_of_ble_eq_true rfl) hW gx sh_1 (by decide) rfl (by decide) (u_147 (e := e8) (d := d8) (n := n8) hW gx ecu gcu q5047 g5048 ece8 gce8 (by assumption) (by assumption) (by omega) (by omega) (by omega) (by omega) hcu8 hcen8 hhdr8) (fun R5049 T5050 H5051 p5052 => ?_))
  obtain ⟨e5053, w5055, f5056, z5057, e5054, b5058, p5059⟩ := p5052
  subst e5053
  subst e5054
  show WL _ _ _ _ 1320 [(4, vI i), (3, .ref o), (2, .ref m), (1, .ref x), (0, .ref 0)] [vI z5057] _ H5051
  refine wl_of hX hb cL_1320 (rw_pop (pc' := 1321) rfl rfl ?_)
  refine wl_of hX hb cL_1321 (rw_aload_n (pc' := 1322) (v := .ref m) rfl rfl rfl ?_)
  have k5061 : wKI H5051 m = wKI H m := (wKI_fr hW gm f5056 rfl)
  have k5062 : H5051 x 9 = H x 9 := (f5056 x 9 _ gx rfl)
  have k5063 : H5051 m 6 = H m 6 := (f5056 m 6 _ gm rfl)
  have k5064 : H5051 x 11 = H x 11 := (f5056 x 11 _ gx rfl)
  have k5065 : H5051 m 13 = H m 13 := (f5056 m 13 _ gm rfl)
  have k5066 : H5051 x 8 = H x 8 := (f5056 x 8 _ gx rfl)
  have k5067 : H5051 m 3 = H m 3 := (f5056 m 3 _ gm rfl)
  have h5068 : RB T H5051 m e8 d8 := (RB_fr hW gm f5056 rfl hrb8)
  have h5069 : KNN T H5051 m e8 d8 := (KNN_fr hW gm f5056 rfl hknn8)
  refine wl_of hX hb cL_1322 (xc_V (pc' := 1325) (r := m) (as := []) (st := []) (lm_11_174) rfl rfl (Nat.le_of_ble_eq_true rfl) w5055 gm sh_42 (by decide) rfl (by decide) (u_282 (e := e8) (d := d8) w5055 gm (by omega) (by assumption) (by assumption) (by assumption) (by assumption) h5068 h5069) (fun R5070 T5071 H5072 p5073 => ?_))
  obtain ⟨e5074, w5076, f5077, z5078, e5075, b5079, p5080⟩ := p5073
  subst e5074
  subst e5075
  obtain ⟨a5081, a5082⟩ := p5080
  show WL _ _ _ _ 1325 [(4, vI i), (3, .ref o), (2, .ref m), (1, .ref x), (0, .ref 0)] [vI z5078] _ H5072
  refine wl_of hX hb cL_1325 (rw_pop (pc' := 1326) rfl rfl ?_)
  refine wl_of hX hb cL_1326 (rw_goto (p1 := 1653) (by decide) ?_)
  have k5083 : H5072 x 9 = H5051 x 9 := (f5077 x 9 _ gx rfl)
  have k5084 : H5072 m 6 = H5051 m 6 := (f5077 m 6 _ gm rfl)
  have k5085 : H5072 x 11 = H5051 x 11 := (f5077 x 11 _ gx rfl)
  have k5086 : H5072 m 13 = H5051 m 13 := (f5077 m 13 _ gm rfl)
  have k5087 : H5072 x 8 = H5051 x 8 := (f5077 x 8 _ gx rfl)
  have k5088 : H5072 m 3 = H5051 m 3 := (f5077 m 3 _ gm rfl)
  have k5089 : H5072 x 0 = H x 0 := ((f5077 x 0 _ gx rfl).trans (f5056 x 0 _ gx rfl))
  have q5090 : H5072 x 0 = (tc : Int) := k5089.trans e0
  have k5091 : H5072 m 5 = H m 5 := ((f5077 m 5 _ gm rfl).trans (f5056 m 5 _ gm rfl))
  have q5092 : H5072 m 5 = (tm : Int) := k5091.trans em
  have k5093 : H5072 x 6 = H x 6 := ((f5077 x 6 _ gx rfl).trans (f5056 x 6 _ gx rfl))
  have q5094 : H5072 x 6 = (cu : Int) := k5093.trans ecu
  have k5095 : H5072 x 7 = H x 7 := ((f5077 x 7 _ gx rfl).trans (f5056 x 7 _ gx rfl))
  have q5096 : H5072 x 7 = (dr : Int) := k5095.trans edr
  have h5097 : CEN T H5072 ce8 e8 d8 := (CEN_fr w5055 gce8 f5077 rfl p5059)
  have h5098 : TP T H5072 tc B := (TP_fr w5055 gtc f5077 rfl (TP_fr hW gtc f5056 rfl htc))
  have h5099 : TM T H5072 tm B := (TM_fr w5055 gtm f5077 rfl (TM_fr hW gtm f5056 rfl htm))
  have h5100 : DD T H5072 cu  := (DD_fr w5055 gcu f5077 rfl (DD_fr hW gcu f5056 rfl hcu))
  have h5101 : DD T H5072 dr  := (DD_fr w5055 gdr f5077 rfl (DD_fr hW gdr f5056 rfl hdr))
  have h5102 : DE T H5072 cu  := (DE_fr w5055 gcu f5077 rfl (DE_fr hW gcu f5056 rfl hdec))
  have h5103 : DE T H5072 dr  := (DE_fr w5055 gdr f5077 rfl (DE_fr hW gdr f5056 rfl hded))
  have h5104 : SP T H5072 x C8 := (SP_fr w5055 gx f5077 rfl (SP_fr hW gx f5056 rfl hsp))
  have h5105 : CU T H5072 cu e8 d8 n8 := (CU_fr w5055 gcu f5077 rfl (CU_fr hW gcu f5056 rfl hcu8))
  have h5106 : CY T H5072 cu (d8 0 3) g8 (H cu 17) := (CY_fr w5055 gcu f5077 rfl (CY_fr hW gcu f5056 rfl h5044))
  have k5107 : H5072 x 3 = H x 3 := ((f5077 x 3 _ gx rfl).trans (f5056 x 3 _ gx rfl))
  have q5108 : H5072 x 3 = (ce8 : Int) := k5107.trans ece8
  have h5109 : HDR T H5072 ce8  := (HDR_fr w5055 gce8 f5077 rfl (HDR_fr hW gce8 f5056 rfl hhdr8))
  have h5110 : RY T H5072 m (d8 0 3) g8 (H m 32) := (RY_fr w5055 gm f5077 rfl (RY_fr hW gm f5056 rfl h5045))
  have h5111 : RB T H5072 m e8 d8 := (RB_fr w5055 gm f5077 rfl h5068)
  exact WL.loc hX (by simp) (next T H5072 ⟨⟨w5076, g0, gx, gm, go, by omega, by omega⟩, ⟨_, tc, tm, cu, dr, _, _, _, _, _, ce8, q5090, gtc, h5098, q5092, gtm, h5099, q5094, gcu, q5096, gdr, h5100, h5101, h5102, h5103, h5104, hC1, hC2, h5105, h5111, (h5106).1, (h5110).1, hE, hZ, (by omega), (by assumption), (by omega), (by first | assumption | exact SG_0), q5108, gce8, h5097, h5109, a5082, gm⟩, by omega, by omega⟩ (by omega) (by omega))
set_option maxHeartbeats 4000000 in
theorem wl_c37 {kt : Nat → Option mc_E} {CB SB : Nat} {X : mc_S → Prop} {T : wq_T} {H : wq_H} {Len x m o : Nat} {i : Int} (hX : wlX kt CB SB X) (hb : T.2.1 ≤ CB ∧ T.2.2.1 ≤ SB) (hI : wlJ Len x m o T H) (hL : Len ≤ 3072) (hi : 0 ≤ i ∧ i + 6 ≤ Len) (hb2 : T.2.1 + 20 ≤ CB ∧ T.2.2.1 + 500 ≤ SB)  (next : ∀ T' H', wlJ Len x m o T' H' → T'.2.1 ≤ T.2.1 + 20 → T'.2.2.1 ≤ T.2.2.1 + 500 → WL kt CB SB X 1653 (wlL i x m o) [] T' H') : WL kt CB SB X 1329 (wlL i x m o) [] T H := by
  obtain ⟨⟨hW, g0, gx, gm, go, hK, hr⟩, hXI, hY1, hY2⟩ := hI
  refine wl_of hX hb cL_1329 (rw_aload_n (pc' := 1330) (v := .ref x) rfl rfl rfl ?_)
  refine wl_of hX hb cL_1330 (xc_V (pc' := 1333) (r := x) (as := []) (st := []) (lm_11_175) rfl rfl (Nat.le_of_ble_eq_true rfl) hW gx sh_1 (by decide) rfl (by decide) (s_149 hW gx) (fun R5112 T5113 H5114 p5115 => ?_))
  obtain ⟨e5116, w5118, f5119, z5120, e5117, b5121⟩ := p5115
  subst e5116
  subst e5117
  show WL _ _ _ _ 1333 [(4, vI i), (3, .ref o), (2, .ref m), (1, .ref x), (0, .ref 0)] [vI z5120] _ H5114
  refine wl_of hX hb cL_1333 (rw_pop (pc' := 1334) rfl rfl ?_)
  refine wl_of hX hb cL_1334 (rw_aload_n (pc' := 1335) (v := .ref m) rfl rfl rfl ?_)
  have k5122 : wKI H5114 m = wKI H m := (wKI_fr hW gm f5119 rfl)
  have k5123 : H5114 x 9 = H x 9 := (f5119 x 9 _ gx rfl)
  have k5124 : H5114 m 6 = H m 6 := (f5119 m 6 _ gm rfl)
  have k5125 : H5114 x 11 = H x 11 := (f5119 x 11 _ gx rfl)
  have k5126 : H5114 m 13 = H m 13 := (f5119 m 13 _ gm rfl)
  have k5127 : H5114 x 8 = H x 8 := (f5119 x 8 _ gx rfl)
  have k5128 : H5114 m 3 = H m 3 := (f5119 m 3 _ gm rfl)
  refine wl_of hX hb cL_1335 (xc_V (pc' := 1338) (r := m) (as := []) (st := []) (lm_11_178) rfl rfl (Nat.le_of_ble_eq_true rfl) w5118 gm sh_42 (by decide) rfl (by decide) (s_283 w5118 gm (by omega)) (fun R5129 T5130 H5131 p5132 => ?_))
  obtain ⟨e5133, w5135, f5136, z5138, e5134, b5139, p5137⟩ := p5132
  subst e5133
  subst e5134
  show WL _ _ _ _ 1338 [(4, vI i), (3, .ref o), (2, .ref m), (1, .ref x), (0, .ref 0)] [vI z5138] _ H5131
  refine wl_of hX hb cL_1338 (rw_pop (pc' := 1339) rfl rfl ?_)
  refine wl_of hX hb cL_1339 (rw_goto (p1 := 1653) (by decide) ?_)
  have k5140 : H5131 x 9 = H5114 x 9 := (f5136 x 9 _ gx rfl)
  have k5141 : H5131 m 6 = H5114 m 6 := (f5136 m 6 _ gm rfl)
  have k5142 : H5131 x 11 = H5114 x 11 := (f5136 x 11 _ gx rfl)
  have k5143 : H5131 m 13 = H5114 m 13 := (f5136 m 13 _ gm rfl)
  have k5144 : H5131 x 8 = H5114 x 8 := (f5136 x 8 _ gx rfl)
  have k5145 : H5131 m 3 = H5114 m 3 := (f5136 m 3 _ gm rfl)
  have h5146 : XI T H5131 x m := (XI_fr w5118 gx f5136 rfl (XI_fr hW gx f5119 rfl hXI))
  exact WL.loc hX (by simp) (next T H5131 ⟨⟨w5135, g0, gx, gm, go, by omega, by omega⟩, h5146, by omega, by omega⟩ (by omega) (by omega))
set_option maxHeartbeats 4000000 in
theorem wl_c38 {kt : Nat → Option mc_E} {CB SB : Nat} {X : mc_S → Prop} {T : wq_T} {H : wq_H} {Len x m o : Nat} {i : Int} (hX : wlX kt CB SB X) (hb : T.2.1 ≤ CB ∧ T.2.2.1 ≤ SB) (hI : wlJ Len x m o T H) (hL : Len ≤ 3072) (hi : 0 ≤ i ∧ i + 6 ≤ Len) (hb2 : T.2.1 + 20 ≤ CB ∧ T.2.2.1 + 500 ≤ SB)  (next : ∀ T' H', wlJ Len x m o T' H' → T'.2.1 ≤ T.2.1 + 20 → T'.2.2.1 ≤ T.2.2.1 + 500 → WL kt CB SB X 1653 (wlL i x m o) [] T' H') : WL kt CB SB X 1342 (wlL i x m o) [] T H := by
  obtain ⟨⟨hW, g0, gx, gm, go, hK, hr⟩, hXI, hY1, hY2⟩ := hI
  refine wl_of hX hb cL_1342 (rw_aload_n (pc' := 1343) (v := .ref x) rfl rfl rfl ?_)
  refine wl_of hX hb cL_1343 (rw_aload_n (pc' := 1344) (v := .ref 0) rfl rfl rfl ?_)
  refine wl_of hX hb cL_1344 (rw_iload (pc' := 1346) (z := i) rfl rfl ?_)
  refine wl_of hX hb cL_1346 (rw_iconst (pc' := 1347) rfl ?_)
  refine wl_of hX hb cL_1347 (rw_iadd (pc' := 1348) rfl ?_)
  refine wl_of hX hb cL_1348 (xa_I (so := 0) (pc' := 1349) (a := 0) hW g0 (wsh_s _) (by omega) (wty_s _ _) (by omega) (by omega) rfl (fun b5147 b5148 => ?_))
  refine wl_of hX hb cL_1349 (xc_V (pc' := 1352) (r := x) (as := [vI (H 0 ((i + 1).toNat))]) (st := []) (lm_11_179) rfl rfl (Nat.le_of_ble_eq_true rfl) hW gx sh_1 (by decide) rfl (by decide) (s_152 hW gx ⟨by omega, by omega⟩) (fun R5149 T5150 H5151 p5152 => ?_))
  obtain ⟨e5153, w5155, f5156, z5157, e5154, b5158⟩ := p5152
  subst e5153
  subst e5154
  show WL _ _ _ _ 1352 [(4, vI i), (3, .ref o), (2, .ref m), (1, .ref x), (0, .ref 0)] [vI z5157] _ H5151
  refine wl_of hX hb cL_1352 (rw_pop (pc' := 1353) rfl rfl ?_)
  refine wl_of hX hb cL_1353 (rw_aload_n (pc' := 1354) (v := .ref m) rfl rfl rfl ?_)
  refine wl_of hX hb cL_1354 (rw_aload_n (pc' := 1355) (v := .ref 0) rfl rfl rfl ?_)
  refine wl_of hX hb cL_1355 (rw_iload (pc' := 1357) (z := i) rfl rfl ?_)
  refine wl_of hX hb cL_1357 (rw_iconst (pc' := 1358) rfl ?_)
  refine wl_of hX hb cL_1358 (rw_iadd (pc' := 1359) rfl ?_)
  have k5161 : H5151 0 ((i + 1).toNat) = H 0 ((i + 1).toNat) := (f5156 0 ((i + 1).toNat) _ g0 (wmem_s rfl))
  refine wl_of hX hb cL_1359 (xa_I (so := 0) (pc' := 1360) (a := 0) w5155 g0 (wsh_s _) (by omega) (wty_s _ _) (by omega) (by omega) rfl (fun b5159 b5160 => ?_))
  have k5162 : wKI H5151 m = wKI H m := (wKI_fr hW gm f5156 rfl)
  have k5163 : H5151 x 9 = H x 9 := (f5156 x 9 _ gx rfl)
  have k5164 : H5151 m 6 = H m 6 := (f5156 m 6 _ gm rfl)
  have k5165 : H5151 x 11 = H x 11 := (f5156 x 11 _ gx rfl)
  have k5166 : H5151 m 13 = H m 13 := (f5156 m 13 _ gm rfl)
  have k5167 : H5151 x 8 = H x 8 := (f5156 x 8 _ gx rfl)
  have k5168 : H5151 m 3 = H m 3 := (f5156 m 3 _ gm rfl)
  refine wl_of hX hb cL_1360 (xc_V (pc' := 1363) (r := m) (as := [vI (H5151 0 ((i + 1).toNat))]) (st := []) (lm_11_182) rfl rfl (Nat.le_of_ble_eq_true rfl) w5155 gm sh_42 (by decide) rfl (by decide) (s_284 w5155 gm ⟨by omega, by omega⟩ (by omega)) (fun R5169 T5170 H5171 p5172 => ?_))
  obtain ⟨e5173, w5175, f5176, z5178, e5174, b5179, p5177⟩ := p5172
  subst e5173
  subst e5174
  show WL _ _ _ _ 1363 [(4, vI i), (3, .ref o), (2, .ref m), (1, .ref x), (0, .ref 0)] [vI z5178] _ H5171
  refine wl_of hX hb cL_1363 (rw_pop (pc' := 1364) rfl rfl ?_)
  refine wl_of hX hb cL_1364 (rw_goto (p1 := 1653) (by decide) ?_)
  have k5180 : H5171 x 9 = H5151 x 9 := (f5176 x 9 _ gx rfl)
  have k5181 : H5171 m 6 = H5151 m 6 := (f5176 m 6 _ gm rfl)
  have k5182 : H5171 x 11 = H5151 x 11 := (f5176 x 11 _ gx rfl)
  have k5183 : H5171 m 13 = H5151 m 13 := (f5176 m 13 _ gm rfl)
  have k5184 : H5171 x 8 = H5151 x 8 := (f5176 x 8 _ gx rfl)
  have k5185 : H5171 m 3 = H5151 m 3 := (f5176 m 3 _ gm rfl)
  have h5186 : XI T H5171 x m := (XI_fr w5155 gx f5176 rfl (XI_fr hW gx f5156 rfl hXI))
  exact WL.loc hX (by simp) (next T H5171 ⟨⟨w5175, g0, gx, gm, go, by omega, by omega⟩, h5186, by omega, by omega⟩ (by omega) (by omega))
set_option maxHeartbeats 4000000 in
theorem wl_c39 {kt : Nat → Option mc_E} {CB SB : Nat} {X : mc_S → Prop} {T : wq_T} {H : wq_H} {Len x m o : Nat} {i : Int} (hX : wlX kt CB SB X) (hb : T.2.1 ≤ CB ∧ T.2.2.1 ≤ SB) (hI : wlJ Len x m o T H) (hL : Len ≤ 3072) (hi : 0 ≤ i ∧ i + 6 ≤ Len) (hb2 : T.2.1 + 20 ≤ CB ∧ T.2.2.1 + 500 ≤ SB)  (next : ∀ T' H', wlJ Len x m o T' H' → T'.2.1 ≤ T.2.1 + 20 → T'.2.2.1 ≤ T.2.2.1 + 500 → WL kt CB SB X 1653 (wlL i x m o) [] T' H') : WL kt CB SB X 1367 (wlL i x m o) [] T H := by
  obtain ⟨⟨hW, g0, gx, gm, go, hK, hr⟩, hXI, hY1, hY2⟩ := hI
  refine wl_of hX hb cL_1367 (rw_aload_n (pc' := 1368) (v := .ref x) rfl rfl rfl ?_)
  refine wl_of hX hb cL_1368 (rw_aload_n (pc' := 1369) (v := .ref 0) rfl rfl rfl ?_)
  refine wl_of hX hb cL_1369 (rw_iload (pc' := 1371) (z := i) rfl rfl ?_)
  refine wl_of hX hb cL_1371 (rw_iconst (pc' := 1372) rfl ?_)
  refine wl_of hX hb cL_1372 (rw_iadd (pc' := 1373) rfl ?_)
  refine wl_of hX hb cL_1373 (xa_I (so := 0) (pc' := 1374) (a := 0) hW g0 (wsh_s _) (by omega) (wty_s _ _) (by omega) (by omega) rfl (fun b5187 b5188 => ?_))
  refine wl_of hX hb cL_1374 (rw_aload_n (pc' := 1375) (v := .ref 0) rfl rfl rfl ?_)
  refine wl_of hX hb cL_1375 (rw_iload (pc' := 1377) (z := i) rfl rfl ?_)
  refine wl_of hX hb cL_1377 (rw_iconst (pc' := 1378) rfl ?_)
  refine wl_of hX hb cL_1378 (rw_iadd (pc' := 1379) rfl ?_)
  refine wl_of hX hb cL_1379 (xa_I (so := 0) (pc' := 1380) (a := 0) hW g0 (wsh_s _) (by omega) (wty_s _ _) (by omega) (by omega) rfl (fun b5189 b5190 => ?_))
  obtain ⟨B, tc, tm, cu, dr, C8, e8, d8, n8, g8, ce8, e0, gtc, htc, em, gtm, htm, ecu, gcu, edr, gdr, hcu, hdr, hdec, hded, hsp, hC1, hC2, hcu8, hrb8, hcg8, hmn8, hE, hZ, hn8, hXA, hV8, hSG, ece8, gce8, hcen8, hhdr8, hknn8, -⟩ := hXI
  have hN3 := RB_n3 hrb8
  have hE13 : ∀ h : Nat, h < 24 → 0 ≤ e8 13 h ∧ e8 13 h ≤ 100 := fun k hk => by
    obtain ⟨s, h1, h2, h3⟩ := hcu8.1.2.2.1
    exact ⟨(h3 k hk).1, (h3 k hk).2.1⟩
  have hXW := hXA.1
  have hXN := hXA.2
  have hE0 : e8 0 3 = d8 0 3 ∧ e8 0 0 = d8 0 0 := by
    have h := hE 0 (by decide)
    exact ⟨congrFun h 3, congrFun h 0⟩
  have u5191 := CU_k hcu8
  have h5192 : CY T H cu (d8 0 3) g8 (H cu 17) := ⟨hcg8, rfl⟩
  have h5193 : RY T H m (d8 0 3) g8 (H m 32) := ⟨hmn8, rfl⟩
  obtain ⟨t9, ht9⟩ : ∃ t : Int, t = H x 9 := ⟨_, rfl⟩
  obtain ⟨y9, hy9⟩ : ∃ y : Int, y = H 0 ((i + 2).toNat) := ⟨_, rfl⟩
  refine wl_of hX hb cL_1380 (xc_V (pc' := 1383) (r := x) (as := [vI (H 0 ((i + 1).toNat)), vI (H 0 ((i + 2).toNat))]) (st := []) (lm_11_183) rfl rfl (Nat.le_of_ble_eq_true rfl) hW gx sh_1 (by decide) rfl (by decide) (u_153 (e := e8) (d := d8) (n := n8) (y := ((H 0 ((i + 1).toNat)))) (w := (((H 0 ((i + 2).toNat)) + 1))) hW gx ⟨by omega, by omega⟩ ⟨by omega, by omega⟩ ecu gcu ece8 gce8 (by omega) (by omega) (by omega) (by omega) hcu8 hcen8) (fun R5194 T5195 H5196 p5197 => ?_))
  obtain ⟨e5198, w5200, f5201, z5202, e5199, b5203, p5204⟩ := p5197
  subst e5198
  subst e5199
  rcases p5204 with ⟨a5205, a5206, a5207, a5208⟩ | ⟨a5209, a5210, a5211, a5212, a5213⟩
  · show WL _ _ _ _ 1383 [(4, vI i), (3, .ref o), (2, .ref m), (1, .ref x), (0, .ref 0)] [vI z5202] _ H5196
    have u5214 := CU_k a5207
    refine wl_of hX hb cL_1383 (rw_pop (pc' := 1384) rfl rfl ?_)
    refine wl_of hX hb cL_1384 (rw_aload_n (pc' := 1385) (v := .ref m) rfl rfl rfl ?_)
    refine wl_of hX hb cL_1385 (rw_aload_n (pc' := 1386) (v := .ref 0) rfl rfl rfl ?_)
    refine wl_of hX hb cL_1386 (rw_iload (pc' := 1388) (z := i) rfl rfl ?_)
    refine wl_of hX hb cL_1388 (rw_iconst (pc' := 1389) rfl ?_)
    refine wl_of hX hb cL_1389 (rw_iadd (pc' := 1390) rfl ?_)
    have k5217 : H5196 0 ((i + 1).toNat) = H 0 ((i + 1).toNat) := (f5201 0 ((i + 1).toNat) _ g0 (wmem_s rfl))
    refine wl_of hX hb cL_1390 (xa_I (so := 0) (pc' := 1391) (a := 0) w5200 g0 (wsh_s _) (by omega) (wty_s _ _) (by omega) (by omega) rfl (fun b5215 b5216 => ?_))
    refine wl_of hX hb cL_1391 (rw_aload_n (pc' := 1392) (v := .ref 0) rfl rfl rfl ?_)
    refine wl_of hX hb cL_1392 (rw_iload (pc' := 1394) (z := i) rfl rfl ?_)
    refine wl_of hX hb cL_1394 (rw_iconst (pc' := 1395) rfl ?_)
    refine wl_of hX hb cL_1395 (rw_iadd (pc' := 1396) rfl ?_)
    have k5220 : H5196 0 ((i + 2).toNat) = H 0 ((i + 2).toNat) := (f5201 0 ((i + 2).toNat) _ g0 (wmem_s rfl))
    refine wl_of hX hb cL_1396 (xa_I (so := 0) (pc' := 1397) (a := 0) w5200 g0 (wsh_s _) (by omega) (wty_s _ _) (by omega) (by omega) rfl (fun b5218 b5219 => ?_))
    have k5221 : wKI H5196 m = wKI H m := (wKI_fr hW gm f5201 rfl)
    have k5222 : H5196 x 9 = H x 9 := (f5201 x 9 _ gx rfl)
    have k5223 : H5196 m 6 = H m 6 := (f5201 m 6 _ gm rfl)
    have k5224 : H5196 x 11 = H x 11 := (f5201 x 11 _ gx rfl)
    have k5225 : H5196 m 13 = H m 13 := (f5201 m 13 _ gm rfl)
    have k5226 : H5196 x 8 = H x 8 := (f5201 x 8 _ gx rfl)
    have k5227 : H5196 m 3 = H m 3 := (f5201 m 3 _ gm rfl)
    rw [show H5196 0 ((i + 2).toNat) = H 0 ((i + 2).toNat) by omega]
    rw [show H5196 0 ((i + 1).toNat) = H 0 ((i + 1).toNat) by omega]
    have h5228 : RB T H5196 m e8 d8 := (RB_fr hW gm f5201 rfl hrb8)
    have h5229 : KNN T H5196 m e8 d8 := (KNN_fr hW gm f5201 rfl hknn8)
    refine wl_of hX hb cL_1397 (xc_V (pc' := 1400) (r := m) (as := [vI (H 0 ((i + 1).toNat)), vI (H 0 ((i + 2).toNat))]) (st := []) (lm_11_186) rfl rfl (Nat.le_of_ble_eq_true rfl) w5200 gm sh_42 (by decide) rfl (by decide) (u_285 (e := e8) (d := d8) (y := ((H 0 ((i + 1).toNat)))) (w := (((H 0 ((i + 2).toNat)) + 1))) w5200 gm ⟨by omega, by omega⟩ ⟨by omega, by omega⟩ (by omega) (by omega) (by omega) h5228 h5229) (fun R5230 T5231 H5232 p5233 => ?_))
    obtain ⟨e5234, w5236, f5237, z5238, e5235, b5239, p5240⟩ := p5233
    subst e5234
    subst e5235
    rcases p5240 with ⟨a5241, a5242, a5243, a5244, a5245⟩ | ⟨a5246, a5247, a5248, a5249, a5250⟩
    · show WL _ _ _ _ 1400 [(4, vI i), (3, .ref o), (2, .ref m), (1, .ref x), (0, .ref 0)] [vI z5238] _ H5232
      refine wl_of hX hb cL_1400 (rw_pop (pc' := 1401) rfl rfl ?_)
      refine wl_of hX hb cL_1401 (rw_goto (p1 := 1653) (by decide) ?_)
      have k5251 : H5232 x 9 = H5196 x 9 := (f5237 x 9 _ gx rfl)
      have k5252 : H5232 m 6 = H5196 m 6 := (f5237 m 6 _ gm rfl)
      have k5253 : H5232 x 11 = H5196 x 11 := (f5237 x 11 _ gx rfl)
      have k5254 : H5232 m 13 = H5196 m 13 := (f5237 m 13 _ gm rfl)
      have k5255 : H5232 x 8 = H5196 x 8 := (f5237 x 8 _ gx rfl)
      have k5256 : H5232 m 3 = H5196 m 3 := (f5237 m 3 _ gm rfl)
      have k5257 : H5232 x 0 = H x 0 := ((f5237 x 0 _ gx rfl).trans (f5201 x 0 _ gx rfl))
      have q5258 : H5232 x 0 = (tc : Int) := k5257.trans e0
      have k5259 : H5232 m 5 = H m 5 := ((f5237 m 5 _ gm rfl).trans (f5201 m 5 _ gm rfl))
      have q5260 : H5232 m 5 = (tm : Int) := k5259.trans em
      have k5261 : H5232 x 6 = H x 6 := ((f5237 x 6 _ gx rfl).trans (f5201 x 6 _ gx rfl))
      have q5262 : H5232 x 6 = (cu : Int) := k5261.trans ecu
      have k5263 : H5232 x 7 = H x 7 := ((f5237 x 7 _ gx rfl).trans (f5201 x 7 _ gx rfl))
      have q5264 : H5232 x 7 = (dr : Int) := k5263.trans edr
      have h5265 : CEN T H5232 ce8 e8 d8 := (CEN_fr w5200 gce8 f5237 rfl a5208)
      have h5266 : TP T H5232 tc B := (TP_fr w5200 gtc f5237 rfl (TP_fr hW gtc f5201 rfl htc))
      have h5267 : TM T H5232 tm B := (TM_fr w5200 gtm f5237 rfl (TM_fr hW gtm f5201 rfl htm))
      have h5268 : DD T H5232 cu  := (DD_fr w5200 gcu f5237 rfl (DD_fr hW gcu f5201 rfl hcu))
      have h5269 : DD T H5232 dr  := (DD_fr w5200 gdr f5237 rfl (DD_fr hW gdr f5201 rfl hdr))
      have h5270 : DE T H5232 cu  := (DE_fr w5200 gcu f5237 rfl (DE_fr hW gcu f5201 rfl hdec))
      have h5271 : DE T H5232 dr  := (DE_fr w5200 gdr f5237 rfl (DE_fr hW gdr f5201 rfl hded))
      have h5272 : SP T H5232 x C8 := (SP_fr w5200 gx f5237 rfl (SP_fr hW gx f5201 rfl hsp))
      have h5273 : CU T H5232 cu e8 d8 n8 := (CU_fr w5200 gcu f5237 rfl a5207)
      have h5274 : CY T H5232 cu (d8 0 3) g8 (H cu 17) := (CY_fr w5200 gcu f5237 rfl (CY_fr hW gcu f5201 rfl h5192))
      have k5275 : H5232 x 3 = H x 3 := ((f5237 x 3 _ gx rfl).trans (f5201 x 3 _ gx rfl))
      have q5276 : H5232 x 3 = (ce8 : Int) := k5275.trans ece8
      have h5277 : HDR T H5232 ce8  := (HDR_fr w5200 gce8 f5237 rfl (HDR_fr hW gce8 f5201 rfl hhdr8))
      have h5278 : RY T H5232 m (d8 0 3) g8 (H m 32) := (RY_fr w5200 gm f5237 rfl (RY_fr hW gm f5201 rfl h5193))
      exact WL.loc hX (by simp) (next T H5232 ⟨⟨w5236, g0, gx, gm, go, by omega, by omega⟩, ⟨_, tc, tm, cu, dr, _, _, _, _, _, ce8, q5258, gtc, h5266, q5260, gtm, h5267, q5262, gcu, q5264, gdr, h5268, h5269, h5270, h5271, h5272, hC1, hC2, h5273, a5244, (h5274).1, (h5278).1, hE, hZ, (by omega), (by assumption), (by omega), (by first | assumption | exact SG_0), q5276, gce8, h5265, h5277, a5245, gm⟩, by omega, by omega⟩ (by omega) (by omega))
    · show WL _ _ _ _ 1400 [(4, vI i), (3, .ref o), (2, .ref m), (1, .ref x), (0, .ref 0)] [vI z5238] _ H5232
      refine wl_of hX hb cL_1400 (rw_pop (pc' := 1401) rfl rfl ?_)
      refine wl_of hX hb cL_1401 (rw_goto (p1 := 1653) (by decide) ?_)
      have k5279 : H5232 x 9 = H5196 x 9 := (f5237 x 9 _ gx rfl)
      have k5280 : H5232 m 6 = H5196 m 6 := (f5237 m 6 _ gm rfl)
      have k5281 : H5232 x 11 = H5196 x 11 := (f5237 x 11 _ gx rfl)
      have k5282 : H5232 m 13 = H5196 m 13 := (f5237 m 13 _ gm rfl)
      have k5283 : H5232 x 8 = H5196 x 8 := (f5237 x 8 _ gx rfl)
      have k5284 : H5232 m 3 = H5196 m 3 := (f5237 m 3 _ gm rfl)
      have k5285 : H5232 x 0 = H x 0 := ((f5237 x 0 _ gx rfl).trans (f5201 x 0 _ gx rfl))
      have q5286 : H5232 x 0 = (tc : Int) := k5285.trans e0
      have k5287 : H5232 m 5 = H m 5 := ((f5237 m 5 _ gm rfl).trans (f5201 m 5 _ gm rfl))
      have q5288 : H5232 m 5 = (tm : Int) := k5287.trans em
      have k5289 : H5232 x 6 = H x 6 := ((f5237 x 6 _ gx rfl).trans (f5201 x 6 _ gx rfl))
      have q5290 : H5232 x 6 = (cu : Int) := k5289.trans ecu
      have k5291 : H5232 x 7 = H x 7 := ((f5237 x 7 _ gx rfl).trans (f5201 x 7 _ gx rfl))
      have q5292 : H5232 x 7 = (dr : Int) := k5291.trans edr
      have h5293 : CEN T H5232 ce8 e8 d8 := (CEN_fr w5200 gce8 f5237 rfl a5208)
      have h5294 : TP T H5232 tc B := (TP_fr w5200 gtc f5237 rfl (TP_fr hW gtc f5201 rfl htc))
      have h5295 : TM T H5232 tm B := (TM_fr w5200 gtm f5237 rfl (TM_fr hW gtm f5201 rfl htm))
      have h5296 : DD T H5232 cu  := (DD_fr w5200 gcu f5237 rfl (DD_fr hW gcu f5201 rfl hcu))
      have h5297 : DD T H5232 dr  := (DD_fr w5200 gdr f5237 rfl (DD_fr hW gdr f5201 rfl hdr))
      have h5298 : DE T H5232 cu  := (DE_fr w5200 gcu f5237 rfl (DE_fr hW gcu f5201 rfl hdec))
      have h5299 : DE T H5232 dr  := (DE_fr w5200 gdr f5237 rfl (DE_fr hW gdr f5201 rfl hded))
      have h5300 : SP T H5232 x C8 := (SP_fr w5200 gx f5237 rfl (SP_fr hW gx f5201 rfl hsp))
      have h5301 : CU T H5232 cu e8 d8 n8 := (CU_fr w5200 gcu f5237 rfl a5207)
      have h5302 : CY T H5232 cu (d8 0 3) g8 (H cu 17) := (CY_fr w5200 gcu f5237 rfl (CY_fr hW gcu f5201 rfl h5192))
      have k5303 : H5232 x 3 = H x 3 := ((f5237 x 3 _ gx rfl).trans (f5201 x 3 _ gx rfl))
      have q5304 : H5232 x 3 = (ce8 : Int) := k5303.trans ece8
      have h5305 : HDR T H5232 ce8  := (HDR_fr w5200 gce8 f5237 rfl (HDR_fr hW gce8 f5201 rfl hhdr8))
      exfalso
      omega
  · show WL _ _ _ _ 1383 [(4, vI i), (3, .ref o), (2, .ref m), (1, .ref x), (0, .ref 0)] [vI z5202] _ H5196
    have u5306 := CU_k a5213
    refine wl_of hX hb cL_1383 (rw_pop (pc' := 1384) rfl rfl ?_)
    refine wl_of hX hb cL_1384 (rw_aload_n (pc' := 1385) (v := .ref m) rfl rfl rfl ?_)
    refine wl_of hX hb cL_1385 (rw_aload_n (pc' := 1386) (v := .ref 0) rfl rfl rfl ?_)
    refine wl_of hX hb cL_1386 (rw_iload (pc' := 1388) (z := i) rfl rfl ?_)
    refine wl_of hX hb cL_1388 (rw_iconst (pc' := 1389) rfl ?_)
    refine wl_of hX hb cL_1389 (rw_iadd (pc' := 1390) rfl ?_)
    have k5309 : H5196 0 ((i + 1).toNat) = H 0 ((i + 1).toNat) := (f5201 0 ((i + 1).toNat) _ g0 (wmem_s rfl))
    refine wl_of hX hb cL_1390 (xa_I (so := 0) (pc' := 1391) (a := 0) w5200 g0 (wsh_s _) (by omega) (wty_s _ _) (by omega) (by omega) rfl (fun b5307 b5308 => ?_))
    refine wl_of hX hb cL_1391 (rw_aload_n (pc' := 1392) (v := .ref 0) rfl rfl rfl ?_)
    refine wl_of hX hb cL_1392 (rw_iload (pc' := 1394) (z := i) rfl rfl ?_)
    refine wl_of hX hb cL_1394 (rw_iconst (pc' := 1395) rfl ?_)
    refine wl_of hX hb cL_1395 (rw_iadd (pc' := 1396) rfl ?_)
    have k5312 : H5196 0 ((i + 2).toNat) = H 0 ((i + 2).toNat) := (f5201 0 ((i + 2).toNat) _ g0 (wmem_s rfl))
    refine wl_of hX hb cL_1396 (xa_I (so := 0) (pc' := 1397) (a := 0) w5200 g0 (wsh_s _) (by omega) (wty_s _ _) (by omega) (by omega) rfl (fun b5310 b5311 => ?_))
    have k5313 : wKI H5196 m = wKI H m := (wKI_fr hW gm f5201 rfl)
    have k5314 : H5196 x 9 = H x 9 := (f5201 x 9 _ gx rfl)
    have k5315 : H5196 m 6 = H m 6 := (f5201 m 6 _ gm rfl)
    have k5316 : H5196 x 11 = H x 11 := (f5201 x 11 _ gx rfl)
    have k5317 : H5196 m 13 = H m 13 := (f5201 m 13 _ gm rfl)
    have k5318 : H5196 x 8 = H x 8 := (f5201 x 8 _ gx rfl)
    have k5319 : H5196 m 3 = H m 3 := (f5201 m 3 _ gm rfl)
    rw [show H5196 0 ((i + 2).toNat) = H 0 ((i + 2).toNat) by omega]
    rw [show H5196 0 ((i + 1).toNat) = H 0 ((i + 1).toNat) by omega]
    have h5320 : RB T H5196 m e8 d8 := (RB_fr hW gm f5201 rfl hrb8)
    have h5321 : KNN T H5196 m e8 d8 := (KNN_fr hW gm f5201 rfl hknn8)
    refine wl_of hX hb cL_1397 (xc_V (pc' := 1400) (r := m) (as := [vI (H 0 ((i + 1).toNat)), vI (H 0 ((i + 2).toNat))]) (st := []) (lm_11_186) rfl rfl (Nat.le_of_ble_eq_true rfl) w5200 gm sh_42 (by decide) rfl (by decide) (u_285 (e := e8) (d := d8) (y := ((H 0 ((i + 1).toNat)))) (w := (((H 0 ((i + 2).toNat)) + 1))) w5200 gm ⟨by omega, by omega⟩ ⟨by omega, by omega⟩ (by omega) (by omega) (by omega) h5320 h5321) (fun R5322 T5323 H5324 p5325 => ?_))
    obtain ⟨e5326, w5328, f5329, z5330, e5327, b5331, p5332⟩ := p5325
    subst e5326
    subst e5327
    rcases p5332 with ⟨a5333, a5334, a5335, a5336, a5337⟩ | ⟨a5338, a5339, a5340, a5341, a5342⟩
    · show WL _ _ _ _ 1400 [(4, vI i), (3, .ref o), (2, .ref m), (1, .ref x), (0, .ref 0)] [vI z5330] _ H5324
      refine wl_of hX hb cL_1400 (rw_pop (pc' := 1401) rfl rfl ?_)
      refine wl_of hX hb cL_1401 (rw_goto (p1 := 1653) (by decide) ?_)
      have k5343 : H5324 x 9 = H5196 x 9 := (f5329 x 9 _ gx rfl)
      have k5344 : H5324 m 6 = H5196 m 6 := (f5329 m 6 _ gm rfl)
      have k5345 : H5324 x 11 = H5196 x 11 := (f5329 x 11 _ gx rfl)
      have k5346 : H5324 m 13 = H5196 m 13 := (f5329 m 13 _ gm rfl)
      have k5347 : H5324 x 8 = H5196 x 8 := (f5329 x 8 _ gx rfl)
      have k5348 : H5324 m 3 = H5196 m 3 := (f5329 m 3 _ gm rfl)
      have k5349 : H5324 x 0 = H x 0 := ((f5329 x 0 _ gx rfl).trans (f5201 x 0 _ gx rfl))
      have q5350 : H5324 x 0 = (tc : Int) := k5349.trans e0
      have k5351 : H5324 m 5 = H m 5 := ((f5329 m 5 _ gm rfl).trans (f5201 m 5 _ gm rfl))
      have q5352 : H5324 m 5 = (tm : Int) := k5351.trans em
      have k5353 : H5324 x 6 = H x 6 := ((f5329 x 6 _ gx rfl).trans (f5201 x 6 _ gx rfl))
      have q5354 : H5324 x 6 = (cu : Int) := k5353.trans ecu
      have k5355 : H5324 x 7 = H x 7 := ((f5329 x 7 _ gx rfl).trans (f5201 x 7 _ gx rfl))
      have q5356 : H5324 x 7 = (dr : Int) := k5355.trans edr
      have k5357 : H5324 ce8 9 = H5196 ce8 9 := (f5329 ce8 9 _ gce8 rfl)
      have h5358 : TP T H5324 tc B := (TP_fr w5200 gtc f5329 rfl (TP_fr hW gtc f5201 rfl htc))
      have h5359 : TM T H5324 tm B := (TM_fr w5200 gtm f5329 rfl (TM_fr hW gtm f5201 rfl htm))
      have h5360 : DD T H5324 cu  := (DD_fr w5200 gcu f5329 rfl (DD_fr hW gcu f5201 rfl hcu))
      have h5361 : DD T H5324 dr  := (DD_fr w5200 gdr f5329 rfl (DD_fr hW gdr f5201 rfl hdr))
      have h5362 : DE T H5324 cu  := (DE_fr w5200 gcu f5329 rfl (DE_fr hW gcu f5201 rfl hdec))
      have h5363 : DE T H5324 dr  := (DE_fr w5200 gdr f5329 rfl (DE_fr hW gdr f5201 rfl hded))
      have h5364 : SP T H5324 x C8 := (SP_fr w5200 gx f5329 rfl (SP_fr hW gx f5201 rfl hsp))
      have h5365 : CU T H5324 cu (wq_u e8 13 (((H 0 ((i + 1).toNat)))).toNat (((H 0 ((i + 2).toNat)) + 1))) d8 n8 := (CU_fr w5200 gcu f5329 rfl a5213)
      have h5366 : CY T H5324 cu (d8 0 3) g8 (H cu 17) := (CY_fr w5200 gcu f5329 rfl (CY_fr hW gcu f5201 rfl h5192))
      have k5367 : H5324 x 3 = H x 3 := ((f5329 x 3 _ gx rfl).trans (f5201 x 3 _ gx rfl))
      have q5368 : H5324 x 3 = (ce8 : Int) := k5367.trans ece8
      have h5369 : HDR T H5324 ce8  := (HDR_fr w5200 gce8 f5329 rfl (HDR_fr hW gce8 f5201 rfl hhdr8))
      exfalso
      omega
    · show WL _ _ _ _ 1400 [(4, vI i), (3, .ref o), (2, .ref m), (1, .ref x), (0, .ref 0)] [vI z5330] _ H5324
      refine wl_of hX hb cL_1400 (rw_pop (pc' := 1401) rfl rfl ?_)
      refine wl_of hX hb cL_1401 (rw_goto (p1 := 1653) (by decide) ?_)
      have k5370 : H5324 x 9 = H5196 x 9 := (f5329 x 9 _ gx rfl)
      have k5371 : H5324 m 6 = H5196 m 6 := (f5329 m 6 _ gm rfl)
      have k5372 : H5324 x 11 = H5196 x 11 := (f5329 x 11 _ gx rfl)
      have k5373 : H5324 m 13 = H5196 m 13 := (f5329 m 13 _ gm rfl)
      have k5374 : H5324 x 8 = H5196 x 8 := (f5329 x 8 _ gx rfl)
      have k5375 : H5324 m 3 = H5196 m 3 := (f5329 m 3 _ gm rfl)
      have k5376 : H5324 x 0 = H x 0 := ((f5329 x 0 _ gx rfl).trans (f5201 x 0 _ gx rfl))
      have q5377 : H5324 x 0 = (tc : Int) := k5376.trans e0
      have k5378 : H5324 m 5 = H m 5 := ((f5329 m 5 _ gm rfl).trans (f5201 m 5 _ gm rfl))
      have q5379 : H5324 m 5 = (tm : Int) := k5378.trans em
      have k5380 : H5324 x 6 = H x 6 := ((f5329 x 6 _ gx rfl).trans (f5201 x 6 _ gx rfl))
      have q5381 : H5324 x 6 = (cu : Int) := k5380.trans ecu
      have k5382 : H5324 x 7 = H x 7 := ((f5329 x 7 _ gx rfl).trans (f5201 x 7 _ gx rfl))
      have q5383 : H5324 x 7 = (dr : Int) := k5382.trans edr
      have k5384 : H5324 ce8 9 = H5196 ce8 9 := (f5329 ce8 9 _ gce8 rfl)
      have h5385 : TP T H5324 tc B := (TP_fr w5200 gtc f5329 rfl (TP_fr hW gtc f5201 rfl htc))
      have h5386 : TM T H5324 tm B := (TM_fr w5200 gtm f5329 rfl (TM_fr hW gtm f5201 rfl htm))
      have h5387 : DD T H5324 cu  := (DD_fr w5200 gcu f5329 rfl (DD_fr hW gcu f5201 rfl hcu))
      have h5388 : DD T H5324 dr  := (DD_fr w5200 gdr f5329 rfl (DD_fr hW gdr f5201 rfl hdr))
      have h5389 : DE T H5324 cu  := (DE_fr w5200 gcu f5329 rfl (DE_fr hW gcu f5201 rfl hdec))
      have h5390 : DE T H5324 dr  := (DE_fr w5200 gdr f5329 rfl (DE_fr hW gdr f5201 rfl hded))
      have h5391 : SP T H5324 x C8 := (SP_fr w5200 gx f5329 rfl (SP_fr hW gx f5201 rfl hsp))
      have h5392 : CU T H5324 cu (wq_u e8 13 (((H 0 ((i + 1).toNat)))).toNat (((H 0 ((i + 2).toNat)) + 1))) d8 n8 := (CU_fr w5200 gcu f5329 rfl a5213)
      have h5393 : CY T H5324 cu (d8 0 3) g8 (H cu 17) := (CY_fr w5200 gcu f5329 rfl (CY_fr hW gcu f5201 rfl h5192))
      have k5394 : H5324 x 3 = H x 3 := ((f5329 x 3 _ gx rfl).trans (f5201 x 3 _ gx rfl))
      have q5395 : H5324 x 3 = (ce8 : Int) := k5394.trans ece8
      have h5396 : HDR T H5324 ce8  := (HDR_fr w5200 gce8 f5329 rfl (HDR_fr hW gce8 f5201 rfl hhdr8))
      have h5397 : RY T H5324 m (d8 0 3) g8 (H m 32) := (RY_fr w5200 gm f5329 rfl (RY_fr hW gm f5201 rfl h5193))
      exact WL.loc hX (by simp) (next T H5324 ⟨⟨w5328, g0, gx, gm, go, by omega, by omega⟩, ⟨_, tc, tm, cu, dr, _, _, _, _, _, ce8, q5377, gtc, h5385, q5379, gtm, h5386, q5381, gcu, q5383, gdr, h5387, h5388, h5389, h5390, h5391, hC1, hC2, h5392, a5342, (h5393).1, (h5397).1, (fun i hi => (wq_u_row hi).trans (hE i hi)), (fun h h1 h2 => by rw [wq_u_e2 (fun c => by omega)]; exact hZ h h1 h2), (by omega), (by assumption), (by omega), (by first | assumption | exact SG_0), q5395, gce8, (by first | assumption | exact CEN_new (by omega)), h5396, (by first | assumption | exact KNN_new (by omega)), gm⟩, by omega, by omega⟩ (by omega) (by omega))
set_option maxHeartbeats 4000000 in
theorem wl_c40 {kt : Nat → Option mc_E} {CB SB : Nat} {X : mc_S → Prop} {T : wq_T} {H : wq_H} {Len x m o : Nat} {i : Int} (hX : wlX kt CB SB X) (hb : T.2.1 ≤ CB ∧ T.2.2.1 ≤ SB) (hI : wlJ Len x m o T H) (hL : Len ≤ 3072) (hi : 0 ≤ i ∧ i + 6 ≤ Len) (hb2 : T.2.1 + 20 ≤ CB ∧ T.2.2.1 + 500 ≤ SB)  (next : ∀ T' H', wlJ Len x m o T' H' → T'.2.1 ≤ T.2.1 + 20 → T'.2.2.1 ≤ T.2.2.1 + 500 → WL kt CB SB X 1653 (wlL i x m o) [] T' H') : WL kt CB SB X 1404 (wlL i x m o) [] T H := by
  obtain ⟨⟨hW, g0, gx, gm, go, hK, hr⟩, hXI, hY1, hY2⟩ := hI
  refine wl_of hX hb cL_1404 (rw_aload_n (pc' := 1405) (v := .ref x) rfl rfl rfl ?_)
  refine wl_of hX hb cL_1405 (rw_aload_n (pc' := 1406) (v := .ref 0) rfl rfl rfl ?_)
  refine wl_of hX hb cL_1406 (rw_iload (pc' := 1408) (z := i) rfl rfl ?_)
  refine wl_of hX hb cL_1408 (rw_iconst (pc' := 1409) rfl ?_)
  refine wl_of hX hb cL_1409 (rw_iadd (pc' := 1410) rfl ?_)
  refine wl_of hX hb cL_1410 (xa_I (so := 0) (pc' := 1411) (a := 0) hW g0 (wsh_s _) (by omega) (wty_s _ _) (by omega) (by omega) rfl (fun b5398 b5399 => ?_))
  obtain ⟨B, tc, tm, cu, dr, C8, e8, d8, n8, g8, ce8, e0, gtc, htc, em, gtm, htm, ecu, gcu, edr, gdr, hcu, hdr, hdec, hded, hsp, hC1, hC2, hcu8, hrb8, hcg8, hmn8, hE, hZ, hn8, hXA, hV8, hSG, ece8, gce8, hcen8, hhdr8, hknn8, -⟩ := hXI
  have hN3 := RB_n3 hrb8
  have hE13 : ∀ h : Nat, h < 24 → 0 ≤ e8 13 h ∧ e8 13 h ≤ 100 := fun k hk => by
    obtain ⟨s, h1, h2, h3⟩ := hcu8.1.2.2.1
    exact ⟨(h3 k hk).1, (h3 k hk).2.1⟩
  have hXW := hXA.1
  have hXN := hXA.2
  have hE0 : e8 0 3 = d8 0 3 ∧ e8 0 0 = d8 0 0 := by
    have h := hE 0 (by decide)
    exact ⟨congrFun h 3, congrFun h 0⟩
  have u5400 := CU_k hcu8
  have h5401 : CY T H cu (d8 0 3) g8 (H cu 17) := ⟨hcg8, rfl⟩
  have h5402 : RY T H m (d8 0 3) g8 (H m 32) := ⟨hmn8, rfl⟩
  obtain ⟨t9, ht9⟩ : ∃ t : Int, t = H x 9 := ⟨_, rfl⟩
  obtain ⟨y9, hy9⟩ : ∃ y : Int, y = H 0 ((i + 1).toNat) := ⟨_, rfl⟩
  refine wl_of hX hb cL_1411 (xc_V (pc' := 1414) (r := x) (as := [vI (H 0 ((i + 1).toNat))]) (st := []) (lm_11_187) rfl rfl (Nat.le_of_ble_eq_true rfl) hW gx sh_1 (by decide) rfl (by decide) (u_154 (e := e8) (d := d8) (n := n8) (y := ((H 0 ((i + 1).toNat)))) hW gx ⟨by omega, by omega⟩ ecu gcu ece8 gce8 (by omega) (by omega) (by omega) hcu8 hcen8) (fun R5403 T5404 H5405 p5406 => ?_))
  obtain ⟨e5407, w5409, f5410, z5411, e5408, b5412, p5413⟩ := p5406
  subst e5407
  subst e5408
  rcases p5413 with ⟨a5414, a5415, a5416, a5417, a5418⟩ | ⟨a5419, a5420, a5421, a5422⟩
  · show WL _ _ _ _ 1414 [(4, vI i), (3, .ref o), (2, .ref m), (1, .ref x), (0, .ref 0)] [vI z5411] _ H5405
    have u5423 := CU_k a5418
    refine wl_of hX hb cL_1414 (rw_pop (pc' := 1415) rfl rfl ?_)
    refine wl_of hX hb cL_1415 (rw_aload_n (pc' := 1416) (v := .ref m) rfl rfl rfl ?_)
    refine wl_of hX hb cL_1416 (rw_aload_n (pc' := 1417) (v := .ref 0) rfl rfl rfl ?_)
    refine wl_of hX hb cL_1417 (rw_iload (pc' := 1419) (z := i) rfl rfl ?_)
    refine wl_of hX hb cL_1419 (rw_iconst (pc' := 1420) rfl ?_)
    refine wl_of hX hb cL_1420 (rw_iadd (pc' := 1421) rfl ?_)
    have k5426 : H5405 0 ((i + 1).toNat) = H 0 ((i + 1).toNat) := (f5410 0 ((i + 1).toNat) _ g0 (wmem_s rfl))
    refine wl_of hX hb cL_1421 (xa_I (so := 0) (pc' := 1422) (a := 0) w5409 g0 (wsh_s _) (by omega) (wty_s _ _) (by omega) (by omega) rfl (fun b5424 b5425 => ?_))
    have k5427 : wKI H5405 m = wKI H m := (wKI_fr hW gm f5410 rfl)
    have k5428 : H5405 x 9 = H x 9 := (f5410 x 9 _ gx rfl)
    have k5429 : H5405 m 6 = H m 6 := (f5410 m 6 _ gm rfl)
    have k5430 : H5405 x 11 = H x 11 := (f5410 x 11 _ gx rfl)
    have k5431 : H5405 m 13 = H m 13 := (f5410 m 13 _ gm rfl)
    have k5432 : H5405 x 8 = H x 8 := (f5410 x 8 _ gx rfl)
    have k5433 : H5405 m 3 = H m 3 := (f5410 m 3 _ gm rfl)
    rw [show H5405 0 ((i + 1).toNat) = H 0 ((i + 1).toNat) by omega]
    have h5434 : RB T H5405 m e8 d8 := (RB_fr hW gm f5410 rfl hrb8)
    have h5435 : KNN T H5405 m e8 d8 := (KNN_fr hW gm f5410 rfl hknn8)
    refine wl_of hX hb cL_1422 (xc_V (pc' := 1425) (r := m) (as := [vI (H 0 ((i + 1).toNat))]) (st := []) (lm_11_191) rfl rfl (Nat.le_of_ble_eq_true rfl) w5409 gm sh_42 (by decide) rfl (by decide) (u_286 (e := e8) (d := d8) (y := ((H 0 ((i + 1).toNat)))) w5409 gm ⟨by omega, by omega⟩ (by omega) (by omega) h5434 h5435) (fun R5436 T5437 H5438 p5439 => ?_))
    obtain ⟨e5440, w5442, f5443, z5444, e5441, b5445, p5446⟩ := p5439
    subst e5440
    subst e5441
    rcases p5446 with ⟨a5447, a5448, a5449, a5450, a5451, a5452⟩ | ⟨a5453, a5454, a5455, a5456, a5457⟩
    · show WL _ _ _ _ 1425 [(4, vI i), (3, .ref o), (2, .ref m), (1, .ref x), (0, .ref 0)] [vI z5444] _ H5438
      refine wl_of hX hb cL_1425 (rw_pop (pc' := 1426) rfl rfl ?_)
      refine wl_of hX hb cL_1426 (rw_goto (p1 := 1653) (by decide) ?_)
      have k5458 : H5438 x 9 = H5405 x 9 := (f5443 x 9 _ gx rfl)
      have k5459 : H5438 m 6 = H5405 m 6 := (f5443 m 6 _ gm rfl)
      have k5460 : H5438 x 11 = H5405 x 11 := (f5443 x 11 _ gx rfl)
      have k5461 : H5438 m 13 = H5405 m 13 := (f5443 m 13 _ gm rfl)
      have k5462 : H5438 x 8 = H5405 x 8 := (f5443 x 8 _ gx rfl)
      have k5463 : H5438 m 3 = H5405 m 3 := (f5443 m 3 _ gm rfl)
      have k5464 : H5438 x 0 = H x 0 := ((f5443 x 0 _ gx rfl).trans (f5410 x 0 _ gx rfl))
      have q5465 : H5438 x 0 = (tc : Int) := k5464.trans e0
      have k5466 : H5438 m 5 = H m 5 := ((f5443 m 5 _ gm rfl).trans (f5410 m 5 _ gm rfl))
      have q5467 : H5438 m 5 = (tm : Int) := k5466.trans em
      have k5468 : H5438 x 6 = H x 6 := ((f5443 x 6 _ gx rfl).trans (f5410 x 6 _ gx rfl))
      have q5469 : H5438 x 6 = (cu : Int) := k5468.trans ecu
      have k5470 : H5438 x 7 = H x 7 := ((f5443 x 7 _ gx rfl).trans (f5410 x 7 _ gx rfl))
      have q5471 : H5438 x 7 = (dr : Int) := k5470.trans edr
      have k5472 : H5438 ce8 9 = H5405 ce8 9 := (f5443 ce8 9 _ gce8 rfl)
      have h5473 : TP T H5438 tc B := (TP_fr w5409 gtc f5443 rfl (TP_fr hW gtc f5410 rfl htc))
      have h5474 : TM T H5438 tm B := (TM_fr w5409 gtm f5443 rfl (TM_fr hW gtm f5410 rfl htm))
      have h5475 : DD T H5438 cu  := (DD_fr w5409 gcu f5443 rfl (DD_fr hW gcu f5410 rfl hcu))
      have h5476 : DD T H5438 dr  := (DD_fr w5409 gdr f5443 rfl (DD_fr hW gdr f5410 rfl hdr))
      have h5477 : DE T H5438 cu  := (DE_fr w5409 gcu f5443 rfl (DE_fr hW gcu f5410 rfl hdec))
      have h5478 : DE T H5438 dr  := (DE_fr w5409 gdr f5443 rfl (DE_fr hW gdr f5410 rfl hded))
      have h5479 : SP T H5438 x C8 := (SP_fr w5409 gx f5443 rfl (SP_fr hW gx f5410 rfl hsp))
      have h5480 : CU T H5438 cu (wq_u e8 13 (((H 0 ((i + 1).toNat)))).toNat 0) d8 n8 := (CU_fr w5409 gcu f5443 rfl a5418)
      have h5481 : CY T H5438 cu (d8 0 3) g8 (H cu 17) := (CY_fr w5409 gcu f5443 rfl (CY_fr hW gcu f5410 rfl h5401))
      have k5482 : H5438 x 3 = H x 3 := ((f5443 x 3 _ gx rfl).trans (f5410 x 3 _ gx rfl))
      have q5483 : H5438 x 3 = (ce8 : Int) := k5482.trans ece8
      have h5484 : HDR T H5438 ce8  := (HDR_fr w5409 gce8 f5443 rfl (HDR_fr hW gce8 f5410 rfl hhdr8))
      have h5485 : RY T H5438 m (d8 0 3) g8 (H m 32) := (RY_fr w5409 gm f5443 rfl (RY_fr hW gm f5410 rfl h5402))
      exact WL.loc hX (by simp) (next T H5438 ⟨⟨w5442, g0, gx, gm, go, by omega, by omega⟩, ⟨_, tc, tm, cu, dr, _, _, _, _, _, ce8, q5465, gtc, h5473, q5467, gtm, h5474, q5469, gcu, q5471, gdr, h5475, h5476, h5477, h5478, h5479, hC1, hC2, h5480, a5452, (h5481).1, (h5485).1, (fun i hi => (wq_u_row hi).trans (hE i hi)), (fun h h1 h2 => by rw [wq_u_e2 (fun c => by omega)]; exact hZ h h1 h2), (by omega), (by assumption), (by omega), (by first | assumption | exact SG_0), q5483, gce8, (by first | assumption | exact CEN_new (by omega)), h5484, (by first | assumption | exact KNN_new (by omega)), gm⟩, by omega, by omega⟩ (by omega) (by omega))
    · show WL _ _ _ _ 1425 [(4, vI i), (3, .ref o), (2, .ref m), (1, .ref x), (0, .ref 0)] [vI z5444] _ H5438
      refine wl_of hX hb cL_1425 (rw_pop (pc' := 1426) rfl rfl ?_)
      refine wl_of hX hb cL_1426 (rw_goto (p1 := 1653) (by decide) ?_)
      have k5486 : H5438 x 9 = H5405 x 9 := (f5443 x 9 _ gx rfl)
      have k5487 : H5438 m 6 = H5405 m 6 := (f5443 m 6 _ gm rfl)
      have k5488 : H5438 x 11 = H5405 x 11 := (f5443 x 11 _ gx rfl)
      have k5489 : H5438 m 13 = H5405 m 13 := (f5443 m 13 _ gm rfl)
      have k5490 : H5438 x 8 = H5405 x 8 := (f5443 x 8 _ gx rfl)
      have k5491 : H5438 m 3 = H5405 m 3 := (f5443 m 3 _ gm rfl)
      have k5492 : H5438 x 0 = H x 0 := ((f5443 x 0 _ gx rfl).trans (f5410 x 0 _ gx rfl))
      have q5493 : H5438 x 0 = (tc : Int) := k5492.trans e0
      have k5494 : H5438 m 5 = H m 5 := ((f5443 m 5 _ gm rfl).trans (f5410 m 5 _ gm rfl))
      have q5495 : H5438 m 5 = (tm : Int) := k5494.trans em
      have k5496 : H5438 x 6 = H x 6 := ((f5443 x 6 _ gx rfl).trans (f5410 x 6 _ gx rfl))
      have q5497 : H5438 x 6 = (cu : Int) := k5496.trans ecu
      have k5498 : H5438 x 7 = H x 7 := ((f5443 x 7 _ gx rfl).trans (f5410 x 7 _ gx rfl))
      have q5499 : H5438 x 7 = (dr : Int) := k5498.trans edr
      have k5500 : H5438 ce8 9 = H5405 ce8 9 := (f5443 ce8 9 _ gce8 rfl)
      have h5501 : TP T H5438 tc B := (TP_fr w5409 gtc f5443 rfl (TP_fr hW gtc f5410 rfl htc))
      have h5502 : TM T H5438 tm B := (TM_fr w5409 gtm f5443 rfl (TM_fr hW gtm f5410 rfl htm))
      have h5503 : DD T H5438 cu  := (DD_fr w5409 gcu f5443 rfl (DD_fr hW gcu f5410 rfl hcu))
      have h5504 : DD T H5438 dr  := (DD_fr w5409 gdr f5443 rfl (DD_fr hW gdr f5410 rfl hdr))
      have h5505 : DE T H5438 cu  := (DE_fr w5409 gcu f5443 rfl (DE_fr hW gcu f5410 rfl hdec))
      have h5506 : DE T H5438 dr  := (DE_fr w5409 gdr f5443 rfl (DE_fr hW gdr f5410 rfl hded))
      have h5507 : SP T H5438 x C8 := (SP_fr w5409 gx f5443 rfl (SP_fr hW gx f5410 rfl hsp))
      have h5508 : CU T H5438 cu (wq_u e8 13 (((H 0 ((i + 1).toNat)))).toNat 0) d8 n8 := (CU_fr w5409 gcu f5443 rfl a5418)
      have h5509 : CY T H5438 cu (d8 0 3) g8 (H cu 17) := (CY_fr w5409 gcu f5443 rfl (CY_fr hW gcu f5410 rfl h5401))
      have k5510 : H5438 x 3 = H x 3 := ((f5443 x 3 _ gx rfl).trans (f5410 x 3 _ gx rfl))
      have q5511 : H5438 x 3 = (ce8 : Int) := k5510.trans ece8
      have h5512 : HDR T H5438 ce8  := (HDR_fr w5409 gce8 f5443 rfl (HDR_fr hW gce8 f5410 rfl hhdr8))
      exfalso
      omega
  · show WL _ _ _ _ 1414 [(4, vI i), (3, .ref o), (2, .ref m), (1, .ref x), (0, .ref 0)] [vI z5411] _ H5405
    have u5513 := CU_k a5421
    refine wl_of hX hb cL_1414 (rw_pop (pc' := 1415) rfl rfl ?_)
    refine wl_of hX hb cL_1415 (rw_aload_n (pc' := 1416) (v := .ref m) rfl rfl rfl ?_)
    refine wl_of hX hb cL_1416 (rw_aload_n (pc' := 1417) (v := .ref 0) rfl rfl rfl ?_)
    refine wl_of hX hb cL_1417 (rw_iload (pc' := 1419) (z := i) rfl rfl ?_)
    refine wl_of hX hb cL_1419 (rw_iconst (pc' := 1420) rfl ?_)
    refine wl_of hX hb cL_1420 (rw_iadd (pc' := 1421) rfl ?_)
    have k5516 : H5405 0 ((i + 1).toNat) = H 0 ((i + 1).toNat) := (f5410 0 ((i + 1).toNat) _ g0 (wmem_s rfl))
    refine wl_of hX hb cL_1421 (xa_I (so := 0) (pc' := 1422) (a := 0) w5409 g0 (wsh_s _) (by omega) (wty_s _ _) (by omega) (by omega) rfl (fun b5514 b5515 => ?_))
    have k5517 : wKI H5405 m = wKI H m := (wKI_fr hW gm f5410 rfl)
    have k5518 : H5405 x 9 = H x 9 := (f5410 x 9 _ gx rfl)
    have k5519 : H5405 m 6 = H m 6 := (f5410 m 6 _ gm rfl)
    have k5520 : H5405 x 11 = H x 11 := (f5410 x 11 _ gx rfl)
    have k5521 : H5405 m 13 = H m 13 := (f5410 m 13 _ gm rfl)
    have k5522 : H5405 x 8 = H x 8 := (f5410 x 8 _ gx rfl)
    have k5523 : H5405 m 3 = H m 3 := (f5410 m 3 _ gm rfl)
    rw [show H5405 0 ((i + 1).toNat) = H 0 ((i + 1).toNat) by omega]
    have h5524 : RB T H5405 m e8 d8 := (RB_fr hW gm f5410 rfl hrb8)
    have h5525 : KNN T H5405 m e8 d8 := (KNN_fr hW gm f5410 rfl hknn8)
    refine wl_of hX hb cL_1422 (xc_V (pc' := 1425) (r := m) (as := [vI (H 0 ((i + 1).toNat))]) (st := []) (lm_11_191) rfl rfl (Nat.le_of_ble_eq_true rfl) w5409 gm sh_42 (by decide) rfl (by decide) (u_286 (e := e8) (d := d8) (y := ((H 0 ((i + 1).toNat)))) w5409 gm ⟨by omega, by omega⟩ (by omega) (by omega) h5524 h5525) (fun R5526 T5527 H5528 p5529 => ?_))
    obtain ⟨e5530, w5532, f5533, z5534, e5531, b5535, p5536⟩ := p5529
    subst e5530
    subst e5531
    rcases p5536 with ⟨a5537, a5538, a5539, a5540, a5541, a5542⟩ | ⟨a5543, a5544, a5545, a5546, a5547⟩
    · show WL _ _ _ _ 1425 [(4, vI i), (3, .ref o), (2, .ref m), (1, .ref x), (0, .ref 0)] [vI z5534] _ H5528
      refine wl_of hX hb cL_1425 (rw_pop (pc' := 1426) rfl rfl ?_)
      refine wl_of hX hb cL_1426 (rw_goto (p1 := 1653) (by decide) ?_)
      have k5548 : H5528 x 9 = H5405 x 9 := (f5533 x 9 _ gx rfl)
      have k5549 : H5528 m 6 = H5405 m 6 := (f5533 m 6 _ gm rfl)
      have k5550 : H5528 x 11 = H5405 x 11 := (f5533 x 11 _ gx rfl)
      have k5551 : H5528 m 13 = H5405 m 13 := (f5533 m 13 _ gm rfl)
      have k5552 : H5528 x 8 = H5405 x 8 := (f5533 x 8 _ gx rfl)
      have k5553 : H5528 m 3 = H5405 m 3 := (f5533 m 3 _ gm rfl)
      have k5554 : H5528 x 0 = H x 0 := ((f5533 x 0 _ gx rfl).trans (f5410 x 0 _ gx rfl))
      have q5555 : H5528 x 0 = (tc : Int) := k5554.trans e0
      have k5556 : H5528 m 5 = H m 5 := ((f5533 m 5 _ gm rfl).trans (f5410 m 5 _ gm rfl))
      have q5557 : H5528 m 5 = (tm : Int) := k5556.trans em
      have k5558 : H5528 x 6 = H x 6 := ((f5533 x 6 _ gx rfl).trans (f5410 x 6 _ gx rfl))
      have q5559 : H5528 x 6 = (cu : Int) := k5558.trans ecu
      have k5560 : H5528 x 7 = H x 7 := ((f5533 x 7 _ gx rfl).trans (f5410 x 7 _ gx rfl))
      have q5561 : H5528 x 7 = (dr : Int) := k5560.trans edr
      have h5562 : CEN T H5528 ce8 e8 d8 := (CEN_fr w5409 gce8 f5533 rfl a5422)
      have h5563 : TP T H5528 tc B := (TP_fr w5409 gtc f5533 rfl (TP_fr hW gtc f5410 rfl htc))
      have h5564 : TM T H5528 tm B := (TM_fr w5409 gtm f5533 rfl (TM_fr hW gtm f5410 rfl htm))
      have h5565 : DD T H5528 cu  := (DD_fr w5409 gcu f5533 rfl (DD_fr hW gcu f5410 rfl hcu))
      have h5566 : DD T H5528 dr  := (DD_fr w5409 gdr f5533 rfl (DD_fr hW gdr f5410 rfl hdr))
      have h5567 : DE T H5528 cu  := (DE_fr w5409 gcu f5533 rfl (DE_fr hW gcu f5410 rfl hdec))
      have h5568 : DE T H5528 dr  := (DE_fr w5409 gdr f5533 rfl (DE_fr hW gdr f5410 rfl hded))
      have h5569 : SP T H5528 x C8 := (SP_fr w5409 gx f5533 rfl (SP_fr hW gx f5410 rfl hsp))
      have h5570 : CU T H5528 cu e8 d8 n8 := (CU_fr w5409 gcu f5533 rfl a5421)
      have h5571 : CY T H5528 cu (d8 0 3) g8 (H cu 17) := (CY_fr w5409 gcu f5533 rfl (CY_fr hW gcu f5410 rfl h5401))
      have k5572 : H5528 x 3 = H x 3 := ((f5533 x 3 _ gx rfl).trans (f5410 x 3 _ gx rfl))
      have q5573 : H5528 x 3 = (ce8 : Int) := k5572.trans ece8
      have h5574 : HDR T H5528 ce8  := (HDR_fr w5409 gce8 f5533 rfl (HDR_fr hW gce8 f5410 rfl hhdr8))
      exfalso
      omega
    · show WL _ _ _ _ 1425 [(4, vI i), (3, .ref o), (2, .ref m), (1, .ref x), (0, .ref 0)] [vI z5534] _ H5528
      refine wl_of hX hb cL_1425 (rw_pop (pc' := 1426) rfl rfl ?_)
      refine wl_of hX hb cL_1426 (rw_goto (p1 := 1653) (by decide) ?_)
      have k5575 : H5528 x 9 = H5405 x 9 := (f5533 x 9 _ gx rfl)
      have k5576 : H5528 m 6 = H5405 m 6 := (f5533 m 6 _ gm rfl)
      have k5577 : H5528 x 11 = H5405 x 11 := (f5533 x 11 _ gx rfl)
      have k5578 : H5528 m 13 = H5405 m 13 := (f5533 m 13 _ gm rfl)
      have k5579 : H5528 x 8 = H5405 x 8 := (f5533 x 8 _ gx rfl)
      have k5580 : H5528 m 3 = H5405 m 3 := (f5533 m 3 _ gm rfl)
      have k5581 : H5528 x 0 = H x 0 := ((f5533 x 0 _ gx rfl).trans (f5410 x 0 _ gx rfl))
      have q5582 : H5528 x 0 = (tc : Int) := k5581.trans e0
      have k5583 : H5528 m 5 = H m 5 := ((f5533 m 5 _ gm rfl).trans (f5410 m 5 _ gm rfl))
      have q5584 : H5528 m 5 = (tm : Int) := k5583.trans em
      have k5585 : H5528 x 6 = H x 6 := ((f5533 x 6 _ gx rfl).trans (f5410 x 6 _ gx rfl))
      have q5586 : H5528 x 6 = (cu : Int) := k5585.trans ecu
      have k5587 : H5528 x 7 = H x 7 := ((f5533 x 7 _ gx rfl).trans (f5410 x 7 _ gx rfl))
      have q5588 : H5528 x 7 = (dr : Int) := k5587.trans edr
      have h5589 : CEN T H5528 ce8 e8 d8 := (CEN_fr w5409 gce8 f5533 rfl a5422)
      have h5590 : TP T H5528 tc B := (TP_fr w5409 gtc f5533 rfl (TP_fr hW gtc f5410 rfl htc))
      have h5591 : TM T H5528 tm B := (TM_fr w5409 gtm f5533 rfl (TM_fr hW gtm f5410 rfl htm))
      have h5592 : DD T H5528 cu  := (DD_fr w5409 gcu f5533 rfl (DD_fr hW gcu f5410 rfl hcu))
      have h5593 : DD T H5528 dr  := (DD_fr w5409 gdr f5533 rfl (DD_fr hW gdr f5410 rfl hdr))
      have h5594 : DE T H5528 cu  := (DE_fr w5409 gcu f5533 rfl (DE_fr hW gcu f5410 rfl hdec))
      have h5595 : DE T H5528 dr  := (DE_fr w5409 gdr f5533 rfl (DE_fr hW gdr f5410 rfl hded))
      have h5596 : SP T H5528 x C8 := (SP_fr w5409 gx f5533 rfl (SP_fr hW gx f5410 rfl hsp))
      have h5597 : CU T H5528 cu e8 d8 n8 := (CU_fr w5409 gcu f5533 rfl a5421)
      have h5598 : CY T H5528 cu (d8 0 3) g8 (H cu 17) := (CY_fr w5409 gcu f5533 rfl (CY_fr hW gcu f5410 rfl h5401))
      have k5599 : H5528 x 3 = H x 3 := ((f5533 x 3 _ gx rfl).trans (f5410 x 3 _ gx rfl))
      have q5600 : H5528 x 3 = (ce8 : Int) := k5599.trans ece8
      have h5601 : HDR T H5528 ce8  := (HDR_fr w5409 gce8 f5533 rfl (HDR_fr hW gce8 f5410 rfl hhdr8))
      have h5602 : RY T H5528 m (d8 0 3) g8 (H m 32) := (RY_fr w5409 gm f5533 rfl (RY_fr hW gm f5410 rfl h5402))
      exact WL.loc hX (by simp) (next T H5528 ⟨⟨w5532, g0, gx, gm, go, by omega, by omega⟩, ⟨_, tc, tm, cu, dr, _, _, _, _, _, ce8, q5582, gtc, h5590, q5584, gtm, h5591, q5586, gcu, q5588, gdr, h5592, h5593, h5594, h5595, h5596, hC1, hC2, h5597, a5546, (h5598).1, (h5602).1, hE, hZ, (by omega), (by assumption), (by omega), (by first | assumption | exact SG_0), q5600, gce8, h5589, h5601, a5547, gm⟩, by omega, by omega⟩ (by omega) (by omega))
set_option maxHeartbeats 4000000 in
theorem wl_c41 {kt : Nat → Option mc_E} {CB SB : Nat} {X : mc_S → Prop} {T : wq_T} {H : wq_H} {Len x m o : Nat} {i : Int} (hX : wlX kt CB SB X) (hb : T.2.1 ≤ CB ∧ T.2.2.1 ≤ SB) (hI : wlJ Len x m o T H) (hL : Len ≤ 3072) (hi : 0 ≤ i ∧ i + 6 ≤ Len) (hb2 : T.2.1 + 20 ≤ CB ∧ T.2.2.1 + 500 ≤ SB)  (next : ∀ T' H', wlJ Len x m o T' H' → T'.2.1 ≤ T.2.1 + 20 → T'.2.2.1 ≤ T.2.2.1 + 500 → WL kt CB SB X 1653 (wlL i x m o) [] T' H') : WL kt CB SB X 1429 (wlL i x m o) [] T H := by
  obtain ⟨⟨hW, g0, gx, gm, go, hK, hr⟩, hXI, hY1, hY2⟩ := hI
  refine wl_of hX hb cL_1429 (rw_aload_n (pc' := 1430) (v := .ref x) rfl rfl rfl ?_)
  refine wl_of hX hb cL_1430 (rw_aload_n (pc' := 1431) (v := .ref 0) rfl rfl rfl ?_)
  refine wl_of hX hb cL_1431 (rw_iload (pc' := 1433) (z := i) rfl rfl ?_)
  refine wl_of hX hb cL_1433 (rw_iconst (pc' := 1434) rfl ?_)
  refine wl_of hX hb cL_1434 (rw_iadd (pc' := 1435) rfl ?_)
  refine wl_of hX hb cL_1435 (xa_I (so := 0) (pc' := 1436) (a := 0) hW g0 (wsh_s _) (by omega) (wty_s _ _) (by omega) (by omega) rfl (fun b5603 b5604 => ?_))
  refine wl_of hX hb cL_1436 (xc_V (pc' := 1439) (r := x) (as := [vI (H 0 ((i + 1).toNat))]) (st := []) (lm_11_192) rfl rfl (Nat.le_of_ble_eq_true rfl) hW gx sh_1 (by decide) rfl (by decide) (s_155 hW gx ⟨by omega, by omega⟩) (fun R5605 T5606 H5607 p5608 => ?_))
  obtain ⟨e5609, w5611, f5612, z5613, e5610, b5614⟩ := p5608
  subst e5609
  subst e5610
  show WL _ _ _ _ 1439 [(4, vI i), (3, .ref o), (2, .ref m), (1, .ref x), (0, .ref 0)] [vI z5613] _ H5607
  refine wl_of hX hb cL_1439 (rw_pop (pc' := 1440) rfl rfl ?_)
  refine wl_of hX hb cL_1440 (rw_aload_n (pc' := 1441) (v := .ref m) rfl rfl rfl ?_)
  refine wl_of hX hb cL_1441 (rw_aload_n (pc' := 1442) (v := .ref 0) rfl rfl rfl ?_)
  refine wl_of hX hb cL_1442 (rw_iload (pc' := 1444) (z := i) rfl rfl ?_)
  refine wl_of hX hb cL_1444 (rw_iconst (pc' := 1445) rfl ?_)
  refine wl_of hX hb cL_1445 (rw_iadd (pc' := 1446) rfl ?_)
  have k5617 : H5607 0 ((i + 1).toNat) = H 0 ((i + 1).toNat) := (f5612 0 ((i + 1).toNat) _ g0 (wmem_s rfl))
  refine wl_of hX hb cL_1446 (xa_I (so := 0) (pc' := 1447) (a := 0) w5611 g0 (wsh_s _) (by omega) (wty_s _ _) (by omega) (by omega) rfl (fun b5615 b5616 => ?_))
  have k5618 : wKI H5607 m = wKI H m := (wKI_fr hW gm f5612 rfl)
  have k5619 : H5607 x 9 = H x 9 := (f5612 x 9 _ gx rfl)
  have k5620 : H5607 m 6 = H m 6 := (f5612 m 6 _ gm rfl)
  have k5621 : H5607 x 11 = H x 11 := (f5612 x 11 _ gx rfl)
  have k5622 : H5607 m 13 = H m 13 := (f5612 m 13 _ gm rfl)
  have k5623 : H5607 x 8 = H x 8 := (f5612 x 8 _ gx rfl)
  have k5624 : H5607 m 3 = H m 3 := (f5612 m 3 _ gm rfl)
  refine wl_of hX hb cL_1447 (xc_V (pc' := 1450) (r := m) (as := [vI (H5607 0 ((i + 1).toNat))]) (st := []) (lm_11_195) rfl rfl (Nat.le_of_ble_eq_true rfl) w5611 gm sh_42 (by decide) rfl (by decide) (s_287 w5611 gm ⟨by omega, by omega⟩ (by omega)) (fun R5625 T5626 H5627 p5628 => ?_))
  obtain ⟨e5629, w5631, f5632, z5634, e5630, b5635, p5633⟩ := p5628
  subst e5629
  subst e5630
  show WL _ _ _ _ 1450 [(4, vI i), (3, .ref o), (2, .ref m), (1, .ref x), (0, .ref 0)] [vI z5634] _ H5627
  refine wl_of hX hb cL_1450 (rw_pop (pc' := 1451) rfl rfl ?_)
  refine wl_of hX hb cL_1451 (rw_goto (p1 := 1653) (by decide) ?_)
  have k5636 : H5627 x 9 = H5607 x 9 := (f5632 x 9 _ gx rfl)
  have k5637 : H5627 m 6 = H5607 m 6 := (f5632 m 6 _ gm rfl)
  have k5638 : H5627 x 11 = H5607 x 11 := (f5632 x 11 _ gx rfl)
  have k5639 : H5627 m 13 = H5607 m 13 := (f5632 m 13 _ gm rfl)
  have k5640 : H5627 x 8 = H5607 x 8 := (f5632 x 8 _ gx rfl)
  have k5641 : H5627 m 3 = H5607 m 3 := (f5632 m 3 _ gm rfl)
  have h5642 : XI T H5627 x m := (XI_fr w5611 gx f5632 rfl (XI_fr hW gx f5612 rfl hXI))
  exact WL.loc hX (by simp) (next T H5627 ⟨⟨w5631, g0, gx, gm, go, by omega, by omega⟩, h5642, by omega, by omega⟩ (by omega) (by omega))
set_option maxHeartbeats 4000000 in
theorem wl_c42 {kt : Nat → Option mc_E} {CB SB : Nat} {X : mc_S → Prop} {T : wq_T} {H : wq_H} {Len x m o : Nat} {i : Int} (hX : wlX kt CB SB X) (hb : T.2.1 ≤ CB ∧ T.2.2.1 ≤ SB) (hI : wlJ Len x m o T H) (hL : Len ≤ 3072) (hi : 0 ≤ i ∧ i + 6 ≤ Len) (hb2 : T.2.1 + 20 ≤ CB ∧ T.2.2.1 + 500 ≤ SB)  (next : ∀ T' H', wlJ Len x m o T' H' → T'.2.1 ≤ T.2.1 + 20 → T'.2.2.1 ≤ T.2.2.1 + 500 → WL kt CB SB X 1653 (wlL i x m o) [] T' H') : WL kt CB SB X 1454 (wlL i x m o) [] T H := by
  obtain ⟨⟨hW, g0, gx, gm, go, hK, hr⟩, hXI, hY1, hY2⟩ := hI
  refine wl_of hX hb cL_1454 (rw_aload_n (pc' := 1455) (v := .ref x) rfl rfl rfl ?_)
  obtain ⟨B, tc, tm, cu, dr, C8, e8, d8, n8, g8, ce8, e0, gtc, htc, em, gtm, htm, ecu, gcu, edr, gdr, hcu, hdr, hdec, hded, hsp, hC1, hC2, hcu8, hrb8, hcg8, hmn8, hE, hZ, hn8, hXA, hV8, hSG, ece8, gce8, hcen8, hhdr8, hknn8, -⟩ := hXI
  have hN3 := RB_n3 hrb8
  have hE13 : ∀ h : Nat, h < 24 → 0 ≤ e8 13 h ∧ e8 13 h ≤ 100 := fun k hk => by
    obtain ⟨s, h1, h2, h3⟩ := hcu8.1.2.2.1
    exact ⟨(h3 k hk).1, (h3 k hk).2.1⟩
  have hXW := hXA.1
  have hXN := hXA.2
  have hE0 : e8 0 3 = d8 0 3 ∧ e8 0 0 = d8 0 0 := by
    have h := hE 0 (by decide)
    exact ⟨congrFun h 3, congrFun h 0⟩
  have u5643 := CU_k hcu8
  have h5644 : CY T H cu (d8 0 3) g8 (H cu 17) := ⟨hcg8, rfl⟩
  have h5645 : RY T H m (d8 0 3) g8 (H m 32) := ⟨hmn8, rfl⟩
  obtain ⟨t9, ht9⟩ : ∃ t : Int, t = H x 9 := ⟨_, rfl⟩
  obtain ⟨r5646, q5647, g5648⟩ := hW.ref gx (t' := 6) (n := 13) (j := 2) (p := 0) (q := 0) rfl (by decide) rfl
  refine wl_of hX hb cL_1455 (xc_V (pc' := 1458) (r := x) (as := []) (st := []) (lm_11_196) rfl rfl (Nat.le_of_ble_eq_true rfl) hW gx sh_1 (by decide) rfl (by decide) (u_156 (e := e8) (d := d8) (n := n8) hW gx ecu gcu q5647 g5648 ece8 gce8 (by assumption) (by assumption) (by omega) (by omega) (by omega) (by omega) hcu8 hcen8 hhdr8) (fun R5649 T5650 H5651 p5652 => ?_))
  obtain ⟨e5653, w5655, f5656, z5657, e5654, b5658, p5659⟩ := p5652
  subst e5653
  subst e5654
  show WL _ _ _ _ 1458 [(4, vI i), (3, .ref o), (2, .ref m), (1, .ref x), (0, .ref 0)] [vI z5657] _ H5651
  refine wl_of hX hb cL_1458 (rw_pop (pc' := 1459) rfl rfl ?_)
  refine wl_of hX hb cL_1459 (rw_aload_n (pc' := 1460) (v := .ref m) rfl rfl rfl ?_)
  have k5661 : wKI H5651 m = wKI H m := (wKI_fr hW gm f5656 rfl)
  have k5662 : H5651 x 9 = H x 9 := (f5656 x 9 _ gx rfl)
  have k5663 : H5651 m 6 = H m 6 := (f5656 m 6 _ gm rfl)
  have k5664 : H5651 x 11 = H x 11 := (f5656 x 11 _ gx rfl)
  have k5665 : H5651 m 13 = H m 13 := (f5656 m 13 _ gm rfl)
  have k5666 : H5651 x 8 = H x 8 := (f5656 x 8 _ gx rfl)
  have k5667 : H5651 m 3 = H m 3 := (f5656 m 3 _ gm rfl)
  have h5668 : RB T H5651 m e8 d8 := (RB_fr hW gm f5656 rfl hrb8)
  have h5669 : KNN T H5651 m e8 d8 := (KNN_fr hW gm f5656 rfl hknn8)
  refine wl_of hX hb cL_1460 (xc_V (pc' := 1463) (r := m) (as := []) (st := []) (lm_11_199) rfl rfl (Nat.le_of_ble_eq_true rfl) w5655 gm sh_42 (by decide) rfl (by decide) (u_288 (e := e8) (d := d8) w5655 gm (by omega) (by assumption) (by assumption) (by assumption) (by assumption) h5668 h5669) (fun R5670 T5671 H5672 p5673 => ?_))
  obtain ⟨e5674, w5676, f5677, z5678, e5675, b5679, p5680⟩ := p5673
  subst e5674
  subst e5675
  obtain ⟨a5681, a5682⟩ := p5680
  show WL _ _ _ _ 1463 [(4, vI i), (3, .ref o), (2, .ref m), (1, .ref x), (0, .ref 0)] [vI z5678] _ H5672
  refine wl_of hX hb cL_1463 (rw_pop (pc' := 1464) rfl rfl ?_)
  refine wl_of hX hb cL_1464 (rw_goto (p1 := 1653) (by decide) ?_)
  have k5683 : H5672 x 9 = H5651 x 9 := (f5677 x 9 _ gx rfl)
  have k5684 : H5672 m 6 = H5651 m 6 := (f5677 m 6 _ gm rfl)
  have k5685 : H5672 x 11 = H5651 x 11 := (f5677 x 11 _ gx rfl)
  have k5686 : H5672 m 13 = H5651 m 13 := (f5677 m 13 _ gm rfl)
  have k5687 : H5672 x 8 = H5651 x 8 := (f5677 x 8 _ gx rfl)
  have k5688 : H5672 m 3 = H5651 m 3 := (f5677 m 3 _ gm rfl)
  have k5689 : H5672 x 0 = H x 0 := ((f5677 x 0 _ gx rfl).trans (f5656 x 0 _ gx rfl))
  have q5690 : H5672 x 0 = (tc : Int) := k5689.trans e0
  have k5691 : H5672 m 5 = H m 5 := ((f5677 m 5 _ gm rfl).trans (f5656 m 5 _ gm rfl))
  have q5692 : H5672 m 5 = (tm : Int) := k5691.trans em
  have k5693 : H5672 x 6 = H x 6 := ((f5677 x 6 _ gx rfl).trans (f5656 x 6 _ gx rfl))
  have q5694 : H5672 x 6 = (cu : Int) := k5693.trans ecu
  have k5695 : H5672 x 7 = H x 7 := ((f5677 x 7 _ gx rfl).trans (f5656 x 7 _ gx rfl))
  have q5696 : H5672 x 7 = (dr : Int) := k5695.trans edr
  have h5697 : CEN T H5672 ce8 e8 d8 := (CEN_fr w5655 gce8 f5677 rfl p5659)
  have h5698 : TP T H5672 tc B := (TP_fr w5655 gtc f5677 rfl (TP_fr hW gtc f5656 rfl htc))
  have h5699 : TM T H5672 tm B := (TM_fr w5655 gtm f5677 rfl (TM_fr hW gtm f5656 rfl htm))
  have h5700 : DD T H5672 cu  := (DD_fr w5655 gcu f5677 rfl (DD_fr hW gcu f5656 rfl hcu))
  have h5701 : DD T H5672 dr  := (DD_fr w5655 gdr f5677 rfl (DD_fr hW gdr f5656 rfl hdr))
  have h5702 : DE T H5672 cu  := (DE_fr w5655 gcu f5677 rfl (DE_fr hW gcu f5656 rfl hdec))
  have h5703 : DE T H5672 dr  := (DE_fr w5655 gdr f5677 rfl (DE_fr hW gdr f5656 rfl hded))
  have h5704 : SP T H5672 x C8 := (SP_fr w5655 gx f5677 rfl (SP_fr hW gx f5656 rfl hsp))
  have h5705 : CU T H5672 cu e8 d8 n8 := (CU_fr w5655 gcu f5677 rfl (CU_fr hW gcu f5656 rfl hcu8))
  have h5706 : CG T H5672 cu (d8 0 3) g8 := (CG_fr w5655 gcu f5677 rfl (CG_fr hW gcu f5656 rfl hcg8))
  have k5707 : H5672 x 3 = H x 3 := ((f5677 x 3 _ gx rfl).trans (f5656 x 3 _ gx rfl))
  have q5708 : H5672 x 3 = (ce8 : Int) := k5707.trans ece8
  have h5709 : HDR T H5672 ce8  := (HDR_fr w5655 gce8 f5677 rfl (HDR_fr hW gce8 f5656 rfl hhdr8))
  have h5710 : MN26 T H5672 m (d8 0 3) g8 := (MN26_fr w5655 gm f5677 rfl (MN26_fr hW gm f5656 rfl hmn8))
  have h5711 : RB T H5672 m e8 d8 := (RB_fr w5655 gm f5677 rfl h5668)
  exact WL.loc hX (by simp) (next T H5672 ⟨⟨w5676, g0, gx, gm, go, by omega, by omega⟩, ⟨_, tc, tm, cu, dr, _, _, _, _, _, ce8, q5690, gtc, h5698, q5692, gtm, h5699, q5694, gcu, q5696, gdr, h5700, h5701, h5702, h5703, h5704, hC1, hC2, h5705, h5711, h5706, h5710, hE, hZ, (by omega), (by assumption), (by omega), (by first | assumption | exact SG_0), q5708, gce8, h5697, h5709, a5682, gm⟩, by omega, by omega⟩ (by omega) (by omega))
