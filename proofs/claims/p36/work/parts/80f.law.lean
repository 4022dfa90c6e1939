/-! THE LAW, GONE ON WITH (own work) -/
set_option maxHeartbeats 4000000 in
theorem wl_c36 {kt : Nat → Option mc_E} {CB SB : Nat} {X : mc_S → Prop} {T : wq_T} {H : wq_H} {Len x m o : Nat} {i : Int} (hX : wlX kt CB SB X) (hb : T.2.1 ≤ CB ∧ T.2.2.1 ≤ SB) (hI : wlJ Len x m o T H) (hL : Len ≤ 3072) (hi : 0 ≤ i ∧ i + 6 ≤ Len) (hb2 : T.2.1 + 20 ≤ CB ∧ T.2.2.1 + 500 ≤ SB)  (next : ∀ T' H', wlJ Len x m o T' H' → T'.2.1 ≤ T.2.1 + 20 → T'.2.2.1 ≤ T.2.2.1 + 500 → WL kt CB SB X 1653 (wlL i x m o) [] T' H') : WL kt CB SB X 1316 (wlL i x m o) [] T H := by
  obtain ⟨⟨hW, g0, gx, gm, go, hK, hr⟩, hXI, hY1, hY2⟩ := hI
  refine wl_of hX hb cL_1316 (rw_aload_n (pc' := 1317) (v := .ref x) rfl rfl rfl ?_)
  obtain ⟨B, tc, tm, cu, dr, C8, e8, d8, n8, g8, ce8, e0, gtc, htc, em, gtm, htm, ecu, gcu, edr, gdr, hcu, hdr, hdec, hded, hsp, hC1, hC2, hcu8, hrb8, hcg8, hmn8, hE, hZ, hn8, hXA, hV8, hSG, ece8, gce8, hcen8, hhdr8, hknn8, -⟩ := hXI
  have hN3 := RB_n3 hrb8
  have hE13 : ∀ h : Nat, h < 24 → 0 ≤ e8 13 h ∧ e8 13 h ≤ 100 := fun k hk => by
    obtain ⟨s, h1, h2, h3⟩ := hcu8.1.2.2.1
    exact ⟨(h3 k hk).1, (h3 k hk).2.1⟩
  have hXW := hXA.1
  have hXN := hXA.2
  have hE0 : e8 0 3 = d8 0 3 ∧ e8 0 0 = d8 0 0 := by
    have h := hE 0 (by decide)
    exact ⟨congrFun h 3, congrFun h 0⟩
  have u5175 := CU_k hcu8
  have h5176 : CY T H cu (d8 0 3) g8 (H cu 17) := ⟨hcg8, rfl⟩
  have h5177 : RY T H m (d8 0 3) g8 (H m 32) := ⟨hmn8, rfl⟩
  obtain ⟨t9, ht9⟩ : ∃ t : Int, t = H x 9 := ⟨_, rfl⟩
  obtain ⟨r5178, q5179, g5180⟩ := hW.ref gx (t' := 6) (n := 13) (j := 2) (p := 0) (q := 0) rfl (by decide) rfl
  refine wl_of hX hb cL_1317 (xc_V (pc' := 1320) (r := x) (as := []) (st := []) (lm_11_171) rfl rfl (Nat.le_of_ble_eq_true rfl) hW gx sh_1 (by decide) rfl (by decide) (u_147 (e := e8) (d := d8) (n := n8) hW gx ecu gcu q5179 g5180 ece8 gce8 (by assumption) (by assumption) (by omega) (by omega) (by omega) (by omega) hcu8 hcen8 hhdr8) (fun R5181 T5182 H5183 p5184 => ?_))
  obtain ⟨e5185, w5187, f5188, z5189, e5186, b5190, p5191⟩ := p5184
  subst e5185
  subst e5186
  show WL _ _ _ _ 1320 [(4, vI i), (3, .ref o), (2, .ref m), (1, .ref x), (0, .ref 0)] [vI z5189] _ H5183
  refine wl_of hX hb cL_1320 (rw_pop (pc' := 1321) rfl rfl ?_)
  refine wl_of hX hb cL_1321 (rw_aload_n (pc' := 1322) (v := .ref m) rfl rfl rfl ?_)
  have k5193 : wKI H5183 m = wKI H m := (wKI_fr hW gm f5188 rfl)
  have k5194 : H5183 x 9 = H x 9 := (f5188 x 9 _ gx rfl)
  have k5195 : H5183 m 6 = H m 6 := (f5188 m 6 _ gm rfl)
  have k5196 : H5183 x 11 = H x 11 := (f5188 x 11 _ gx rfl)
  have k5197 : H5183 m 13 = H m 13 := (f5188 m 13 _ gm rfl)
  have k5198 : H5183 x 8 = H x 8 := (f5188 x 8 _ gx rfl)
  have k5199 : H5183 m 3 = H m 3 := (f5188 m 3 _ gm rfl)
  have h5200 : RB T H5183 m e8 d8 := (RB_fr hW gm f5188 rfl hrb8)
  have h5201 : KNN T H5183 m e8 d8 := (KNN_fr hW gm f5188 rfl hknn8)
  refine wl_of hX hb cL_1322 (xc_V (pc' := 1325) (r := m) (as := []) (st := []) (lm_11_174) rfl rfl (Nat.le_of_ble_eq_true rfl) w5187 gm sh_42 (by decide) rfl (by decide) (u_282 (e := e8) (d := d8) w5187 gm (by omega) (by assumption) (by assumption) (by assumption) (by assumption) h5200 h5201) (fun R5202 T5203 H5204 p5205 => ?_))
  obtain ⟨e5206, w5208, f5209, z5210, e5207, b5211, p5212⟩ := p5205
  subst e5206
  subst e5207
  obtain ⟨a5213, a5214⟩ := p5212
  show WL _ _ _ _ 1325 [(4, vI i), (3, .ref o), (2, .ref m), (1, .ref x), (0, .ref 0)] [vI z5210] _ H5204
  refine wl_of hX hb cL_1325 (rw_pop (pc' := 1326) rfl rfl ?_)
  refine wl_of hX hb cL_1326 (rw_goto (p1 := 1653) (by decide) ?_)
  have k5215 : H5204 x 9 = H5183 x 9 := (f5209 x 9 _ gx rfl)
  have k5216 : H5204 m 6 = H5183 m 6 := (f5209 m 6 _ gm rfl)
  have k5217 : H5204 x 11 = H5183 x 11 := (f5209 x 11 _ gx rfl)
  have k5218 : H5204 m 13 = H5183 m 13 := (f5209 m 13 _ gm rfl)
  have k5219 : H5204 x 8 = H5183 x 8 := (f5209 x 8 _ gx rfl)
  have k5220 : H5204 m 3 = H5183 m 3 := (f5209 m 3 _ gm rfl)
  have k5221 : H5204 x 0 = H x 0 := ((f5209 x 0 _ gx rfl).trans (f5188 x 0 _ gx rfl))
  have q5222 : H5204 x 0 = (tc : Int) := k5221.trans e0
  have k5223 : H5204 m 5 = H m 5 := ((f5209 m 5 _ gm rfl).trans (f5188 m 5 _ gm rfl))
  have q5224 : H5204 m 5 = (tm : Int) := k5223.trans em
  have k5225 : H5204 x 6 = H x 6 := ((f5209 x 6 _ gx rfl).trans (f5188 x 6 _ gx rfl))
  have q5226 : H5204 x 6 = (cu : Int) := k5225.trans ecu
  have k5227 : H5204 x 7 = H x 7 := ((f5209 x 7 _ gx rfl).trans (f5188 x 7 _ gx rfl))
  have q5228 : H5204 x 7 = (dr : Int) := k5227.trans edr
  have h5229 : CEN T H5204 ce8 e8 d8 := (CEN_fr w5187 gce8 f5209 rfl p5191)
  have h5230 : TP T H5204 tc B := (TP_fr w5187 gtc f5209 rfl (TP_fr hW gtc f5188 rfl htc))
  have h5231 : TM T H5204 tm B := (TM_fr w5187 gtm f5209 rfl (TM_fr hW gtm f5188 rfl htm))
  have h5232 : DD T H5204 cu  := (DD_fr w5187 gcu f5209 rfl (DD_fr hW gcu f5188 rfl hcu))
  have h5233 : DD T H5204 dr  := (DD_fr w5187 gdr f5209 rfl (DD_fr hW gdr f5188 rfl hdr))
  have h5234 : DE T H5204 cu  := (DE_fr w5187 gcu f5209 rfl (DE_fr hW gcu f5188 rfl hdec))
  have h5235 : DE T H5204 dr  := (DE_fr w5187 gdr f5209 rfl (DE_fr hW gdr f5188 rfl hded))
  have h5236 : SP T H5204 x C8 := (SP_fr w5187 gx f5209 rfl (SP_fr hW gx f5188 rfl hsp))
  have h5237 : CU T H5204 cu e8 d8 n8 := (CU_fr w5187 gcu f5209 rfl (CU_fr hW gcu f5188 rfl hcu8))
  have h5238 : CY T H5204 cu (d8 0 3) g8 (H cu 17) := (CY_fr w5187 gcu f5209 rfl (CY_fr hW gcu f5188 rfl h5176))
  have k5239 : H5204 x 3 = H x 3 := ((f5209 x 3 _ gx rfl).trans (f5188 x 3 _ gx rfl))
  have q5240 : H5204 x 3 = (ce8 : Int) := k5239.trans ece8
  have h5241 : HDR T H5204 ce8  := (HDR_fr w5187 gce8 f5209 rfl (HDR_fr hW gce8 f5188 rfl hhdr8))
  have h5242 : RY T H5204 m (d8 0 3) g8 (H m 32) := (RY_fr w5187 gm f5209 rfl (RY_fr hW gm f5188 rfl h5177))
  have h5243 : RB T H5204 m e8 d8 := (RB_fr w5187 gm f5209 rfl h5200)
  exact WL.loc hX (by simp) (next T H5204 ⟨⟨w5208, g0, gx, gm, go, by omega, by omega⟩, ⟨_, tc, tm, cu, dr, _, _, _, _, _, ce8, q5222, gtc, h5230, q5224, gtm, h5231, q5226, gcu, q5228, gdr, h5232, h5233, h5234, h5235, h5236, hC1, hC2, h5237, h5243, (h5238).1, (h5242).1, hE, hZ, (by omega), (by assumption), (by omega), (by first | assumption | exact SG_0), q5240, gce8, h5229, h5241, a5214, gm⟩, by omega, by omega⟩ (by omega) (by omega))
set_option maxHeartbeats 4000000 in
theorem wl_c37 {kt : Nat → Option mc_E} {CB SB : Nat} {X : mc_S → Prop} {T : wq_T} {H : wq_H} {Len x m o : Nat} {i : Int} (hX : wlX kt CB SB X) (hb : T.2.1 ≤ CB ∧ T.2.2.1 ≤ SB) (hI : wlJ Len x m o T H) (hL : Len ≤ 3072) (hi : 0 ≤ i ∧ i + 6 ≤ Len) (hb2 : T.2.1 + 20 ≤ CB ∧ T.2.2.1 + 500 ≤ SB)  (next : ∀ T' H', wlJ Len x m o T' H' → T'.2.1 ≤ T.2.1 + 20 → T'.2.2.1 ≤ T.2.2.1 + 500 → WL kt CB SB X 1653 (wlL i x m o) [] T' H') : WL kt CB SB X 1329 (wlL i x m o) [] T H := by
  obtain ⟨⟨hW, g0, gx, gm, go, hK, hr⟩, hXI, hY1, hY2⟩ := hI
  refine wl_of hX hb cL_1329 (rw_aload_n (pc' := 1330) (v := .ref x) rfl rfl rfl ?_)
  refine wl_of hX hb cL_1330 (xc_V (pc' := 1333) (r := x) (as := []) (st := []) (lm_11_175) rfl rfl (Nat.le_of_ble_eq_true rfl) hW gx sh_1 (by decide) rfl (by decide) (s_149 hW gx) (fun R5244 T5245 H5246 p5247 => ?_))
  obtain ⟨e5248, w5250, f5251, z5252, e5249, b5253⟩ := p5247
  subst e5248
  subst e5249
  show WL _ _ _ _ 1333 [(4, vI i), (3, .ref o), (2, .ref m), (1, .ref x), (0, .ref 0)] [vI z5252] _ H5246
  refine wl_of hX hb cL_1333 (rw_pop (pc' := 1334) rfl rfl ?_)
  refine wl_of hX hb cL_1334 (rw_aload_n (pc' := 1335) (v := .ref m) rfl rfl rfl ?_)
  have k5254 : wKI H5246 m = wKI H m := (wKI_fr hW gm f5251 rfl)
  have k5255 : H5246 x 9 = H x 9 := (f5251 x 9 _ gx rfl)
  have k5256 : H5246 m 6 = H m 6 := (f5251 m 6 _ gm rfl)
  have k5257 : H5246 x 11 = H x 11 := (f5251 x 11 _ gx rfl)
  have k5258 : H5246 m 13 = H m 13 := (f5251 m 13 _ gm rfl)
  have k5259 : H5246 x 8 = H x 8 := (f5251 x 8 _ gx rfl)
  have k5260 : H5246 m 3 = H m 3 := (f5251 m 3 _ gm rfl)
  refine wl_of hX hb cL_1335 (xc_V (pc' := 1338) (r := m) (as := []) (st := []) (lm_11_178) rfl rfl (Nat.le_of_ble_eq_true rfl) w5250 gm sh_42 (by decide) rfl (by decide) (s_283 w5250 gm (by omega)) (fun R5261 T5262 H5263 p5264 => ?_))
  obtain ⟨e5265, w5267, f5268, z5270, e5266, b5271, p5269⟩ := p5264
  subst e5265
  subst e5266
  show WL _ _ _ _ 1338 [(4, vI i), (3, .ref o), (2, .ref m), (1, .ref x), (0, .ref 0)] [vI z5270] _ H5263
  refine wl_of hX hb cL_1338 (rw_pop (pc' := 1339) rfl rfl ?_)
  refine wl_of hX hb cL_1339 (rw_goto (p1 := 1653) (by decide) ?_)
  have k5272 : H5263 x 9 = H5246 x 9 := (f5268 x 9 _ gx rfl)
  have k5273 : H5263 m 6 = H5246 m 6 := (f5268 m 6 _ gm rfl)
  have k5274 : H5263 x 11 = H5246 x 11 := (f5268 x 11 _ gx rfl)
  have k5275 : H5263 m 13 = H5246 m 13 := (f5268 m 13 _ gm rfl)
  have k5276 : H5263 x 8 = H5246 x 8 := (f5268 x 8 _ gx rfl)
  have k5277 : H5263 m 3 = H5246 m 3 := (f5268 m 3 _ gm rfl)
  have h5278 : XI T H5263 x m := (XI_fr w5250 gx f5268 rfl (XI_fr hW gx f5251 rfl hXI))
  exact WL.loc hX (by simp) (next T H5263 ⟨⟨w5267, g0, gx, gm, go, by omega, by omega⟩, h5278, by omega, by omega⟩ (by omega) (by omega))
set_option maxHeartbeats 4000000 in
theorem wl_c38 {kt : Nat → Option mc_E} {CB SB : Nat} {X : mc_S → Prop} {T : wq_T} {H : wq_H} {Len x m o : Nat} {i : Int} (hX : wlX kt CB SB X) (hb : T.2.1 ≤ CB ∧ T.2.2.1 ≤ SB) (hI : wlJ Len x m o T H) (hL : Len ≤ 3072) (hi : 0 ≤ i ∧ i + 6 ≤ Len) (hb2 : T.2.1 + 20 ≤ CB ∧ T.2.2.1 + 500 ≤ SB)  (next : ∀ T' H', wlJ Len x m o T' H' → T'.2.1 ≤ T.2.1 + 20 → T'.2.2.1 ≤ T.2.2.1 + 500 → WL kt CB SB X 1653 (wlL i x m o) [] T' H') : WL kt CB SB X 1342 (wlL i x m o) [] T H := by
  obtain ⟨⟨hW, g0, gx, gm, go, hK, hr⟩, hXI, hY1, hY2⟩ := hI
  refine wl_of hX hb cL_1342 (rw_aload_n (pc' := 1343) (v := .ref x) rfl rfl rfl ?_)
  refine wl_of hX hb cL_1343 (rw_aload_n (pc' := 1344) (v := .ref 0) rfl rfl rfl ?_)
  refine wl_of hX hb cL_1344 (rw_iload (pc' := 1346) (z := i) rfl rfl ?_)
  refine wl_of hX hb cL_1346 (rw_iconst (pc' := 1347) rfl ?_)
  refine wl_of hX hb cL_1347 (rw_iadd (pc' := 1348) rfl ?_)
  refine wl_of hX hb cL_1348 (xa_I (so := 0) (pc' := 1349) (a := 0) hW g0 (wsh_s _) (by omega) (wty_s _ _) (by omega) (by omega) rfl (fun b5279 b5280 => ?_))
  refine wl_of hX hb cL_1349 (xc_V (pc' := 1352) (r := x) (as := [vI (H 0 ((i + 1).toNat))]) (st := []) (lm_11_179) rfl rfl (Nat.le_of_ble_eq_true rfl) hW gx sh_1 (by decide) rfl (by decide) (s_152 hW gx ⟨by omega, by omega⟩) (fun R5281 T5282 H5283 p5284 => ?_))
  obtain ⟨e5285, w5287, f5288, z5289, e5286, b5290⟩ := p5284
  subst e5285
  subst e5286
  show WL _ _ _ _ 1352 [(4, vI i), (3, .ref o), (2, .ref m), (1, .ref x), (0, .ref 0)] [vI z5289] _ H5283
  refine wl_of hX hb cL_1352 (rw_pop (pc' := 1353) rfl rfl ?_)
  refine wl_of hX hb cL_1353 (rw_aload_n (pc' := 1354) (v := .ref m) rfl rfl rfl ?_)
  refine wl_of hX hb cL_1354 (rw_aload_n (pc' := 1355) (v := .ref 0) rfl rfl rfl ?_)
  refine wl_of hX hb cL_1355 (rw_iload (pc' := 1357) (z := i) rfl rfl ?_)
  refine wl_of hX hb cL_1357 (rw_iconst (pc' := 1358) rfl ?_)
  refine wl_of hX hb cL_1358 (rw_iadd (pc' := 1359) rfl ?_)
  have k5293 : H5283 0 ((i + 1).toNat) = H 0 ((i + 1).toNat) := (f5288 0 ((i + 1).toNat) _ g0 (wmem_s rfl))
  refine wl_of hX hb cL_1359 (xa_I (so := 0) (pc' := 1360) (a := 0) w5287 g0 (wsh_s _) (by omega) (wty_s _ _) (by omega) (by omega) rfl (fun b5291 b5292 => ?_))
  have k5294 : wKI H5283 m = wKI H m := (wKI_fr hW gm f5288 rfl)
  have k5295 : H5283 x 9 = H x 9 := (f5288 x 9 _ gx rfl)
  have k5296 : H5283 m 6 = H m 6 := (f5288 m 6 _ gm rfl)
  have k5297 : H5283 x 11 = H x 11 := (f5288 x 11 _ gx rfl)
  have k5298 : H5283 m 13 = H m 13 := (f5288 m 13 _ gm rfl)
  have k5299 : H5283 x 8 = H x 8 := (f5288 x 8 _ gx rfl)
  have k5300 : H5283 m 3 = H m 3 := (f5288 m 3 _ gm rfl)
  refine wl_of hX hb cL_1360 (xc_V (pc' := 1363) (r := m) (as := [vI (H5283 0 ((i + 1).toNat))]) (st := []) (lm_11_182) rfl rfl (Nat.le_of_ble_eq_true rfl) w5287 gm sh_42 (by decide) rfl (by decide) (s_284 w5287 gm ⟨by omega, by omega⟩ (by omega)) (fun R5301 T5302 H5303 p5304 => ?_))
  obtain ⟨e5305, w5307, f5308, z5310, e5306, b5311, p5309⟩ := p5304
  subst e5305
  subst e5306
  show WL _ _ _ _ 1363 [(4, vI i), (3, .ref o), (2, .ref m), (1, .ref x), (0, .ref 0)] [vI z5310] _ H5303
  refine wl_of hX hb cL_1363 (rw_pop (pc' := 1364) rfl rfl ?_)
  refine wl_of hX hb cL_1364 (rw_goto (p1 := 1653) (by decide) ?_)
  have k5312 : H5303 x 9 = H5283 x 9 := (f5308 x 9 _ gx rfl)
  have k5313 : H5303 m 6 = H5283 m 6 := (f5308 m 6 _ gm rfl)
  have k5314 : H5303 x 11 = H5283 x 11 := (f5308 x 11 _ gx rfl)
  have k5315 : H5303 m 13 = H5283 m 13 := (f5308 m 13 _ gm rfl)
  have k5316 : H5303 x 8 = H5283 x 8 := (f5308 x 8 _ gx rfl)
  have k5317 : H5303 m 3 = H5283 m 3 := (f5308 m 3 _ gm rfl)
  have h5318 : XI T H5303 x m := (XI_fr w5287 gx f5308 rfl (XI_fr hW gx f5288 rfl hXI))
  exact WL.loc hX (by simp) (next T H5303 ⟨⟨w5307, g0, gx, gm, go, by omega, by omega⟩, h5318, by omega, by omega⟩ (by omega) (by omega))
set_option maxHeartbeats 4000000 in
theorem wl_c39 {kt : Nat → Option mc_E} {CB SB : Nat} {X : mc_S → Prop} {T : wq_T} {H : wq_H} {Len x m o : Nat} {i : Int} (hX : wlX kt CB SB X) (hb : T.2.1 ≤ CB ∧ T.2.2.1 ≤ SB) (hI : wlJ Len x m o T H) (hL : Len ≤ 3072) (hi : 0 ≤ i ∧ i + 6 ≤ Len) (hb2 : T.2.1 + 20 ≤ CB ∧ T.2.2.1 + 500 ≤ SB)  (next : ∀ T' H', wlJ Len x m o T' H' → T'.2.1 ≤ T.2.1 + 20 → T'.2.2.1 ≤ T.2.2.1 + 500 → WL kt CB SB X 1653 (wlL i x m o) [] T' H') : WL kt CB SB X 1367 (wlL i x m o) [] T H := by
  obtain ⟨⟨hW, g0, gx, gm, go, hK, hr⟩, hXI, hY1, hY2⟩ := hI
  refine wl_of hX hb cL_1367 (rw_aload_n (pc' := 1368) (v := .ref x) rfl rfl rfl ?_)
  refine wl_of hX hb cL_1368 (rw_aload_n (pc' := 1369) (v := .ref 0) rfl rfl rfl ?_)
  refine wl_of hX hb cL_1369 (rw_iload (pc' := 1371) (z := i) rfl rfl ?_)
  refine wl_of hX hb cL_1371 (rw_iconst (pc' := 1372) rfl ?_)
  refine wl_of hX hb cL_1372 (rw_iadd (pc' := 1373) rfl ?_)
  refine wl_of hX hb cL_1373 (xa_I (so := 0) (pc' := 1374) (a := 0) hW g0 (wsh_s _) (by omega) (wty_s _ _) (by omega) (by omega) rfl (fun b5319 b5320 => ?_))
  refine wl_of hX hb cL_1374 (rw_aload_n (pc' := 1375) (v := .ref 0) rfl rfl rfl ?_)
  refine wl_of hX hb cL_1375 (rw_iload (pc' := 1377) (z := i) rfl rfl ?_)
  refine wl_of hX hb cL_1377 (rw_iconst (pc' := 1378) rfl ?_)
  refine wl_of hX hb cL_1378 (rw_iadd (pc' := 1379) rfl ?_)
  refine wl_of hX hb cL_1379 (xa_I (so := 0) (pc' := 1380) (a := 0) hW g0 (wsh_s _) (by omega) (wty_s _ _) (by omega) (by omega) rfl (fun b5321 b5322 => ?_))
  obtain ⟨B, tc, tm, cu, dr, C8, e8, d8, n8, g8, ce8, e0, gtc, htc, em, gtm, htm, ecu, gcu, edr, gdr, hcu, hdr, hdec, hded, hsp, hC1, hC2, hcu8, hrb8, hcg8, hmn8, hE, hZ, hn8, hXA, hV8, hSG, ece8, gce8, hcen8, hhdr8, hknn8, -⟩ := hXI
  have hN3 := RB_n3 hrb8
  have hE13 : ∀ h : Nat, h < 24 → 0 ≤ e8 13 h ∧ e8 13 h ≤ 100 := fun k hk => by
    obtain ⟨s, h1, h2, h3⟩ := hcu8.1.2.2.1
    exact ⟨(h3 k hk).1, (h3 k hk).2.1⟩
  have hXW := hXA.1
  have hXN := hXA.2
  have hE0 : e8 0 3 = d8 0 3 ∧ e8 0 0 = d8 0 0 := by
    have h := hE 0 (by decide)
    exact ⟨congrFun h 3, congrFun h 0⟩
  have u5323 := CU_k hcu8
  have h5324 : CY T H cu (d8 0 3) g8 (H cu 17) := ⟨hcg8, rfl⟩
  have h5325 : RY T H m (d8 0 3) g8 (H m 32) := ⟨hmn8, rfl⟩
  obtain ⟨t9, ht9⟩ : ∃ t : Int, t = H x 9 := ⟨_, rfl⟩
  obtain ⟨y9, hy9⟩ : ∃ y : Int, y = H 0 ((i + 2).toNat) := ⟨_, rfl⟩
  refine wl_of hX hb cL_1380 (xc_V (pc' := 1383) (r := x) (as := [vI (H 0 ((i + 1).toNat)), vI (H 0 ((i + 2).toNat))]) (st := []) (lm_11_183) rfl rfl (Nat.le_of_ble_eq_true rfl) hW gx sh_1 (by decide) rfl (by decide) (u_153 (e := e8) (d := d8) (n := n8) (y := ((H 0 ((i + 1).toNat)))) (w := (((H 0 ((i + 2).toNat)) + 1))) hW gx ⟨by omega, by omega⟩ ⟨by omega, by omega⟩ ecu gcu ece8 gce8 (by omega) (by omega) (by omega) (by omega) hcu8 hcen8) (fun R5326 T5327 H5328 p5329 => ?_))
  obtain ⟨e5330, w5332, f5333, z5334, e5331, b5335, p5336⟩ := p5329
  subst e5330
  subst e5331
  rcases p5336 with ⟨a5337, a5338, a5339, a5340⟩ | ⟨a5341, a5342, a5343, a5344, a5345⟩
  · show WL _ _ _ _ 1383 [(4, vI i), (3, .ref o), (2, .ref m), (1, .ref x), (0, .ref 0)] [vI z5334] _ H5328
    have u5346 := CU_k a5339
    refine wl_of hX hb cL_1383 (rw_pop (pc' := 1384) rfl rfl ?_)
    refine wl_of hX hb cL_1384 (rw_aload_n (pc' := 1385) (v := .ref m) rfl rfl rfl ?_)
    refine wl_of hX hb cL_1385 (rw_aload_n (pc' := 1386) (v := .ref 0) rfl rfl rfl ?_)
    refine wl_of hX hb cL_1386 (rw_iload (pc' := 1388) (z := i) rfl rfl ?_)
    refine wl_of hX hb cL_1388 (rw_iconst (pc' := 1389) rfl ?_)
    refine wl_of hX hb cL_1389 (rw_iadd (pc' := 1390) rfl ?_)
    have k5349 : H5328 0 ((i + 1).toNat) = H 0 ((i + 1).toNat) := (f5333 0 ((i + 1).toNat) _ g0 (wmem_s rfl))
    refine wl_of hX hb cL_1390 (xa_I (so := 0) (pc' := 1391) (a := 0) w5332 g0 (wsh_s _) (by omega) (wty_s _ _) (by omega) (by omega) rfl (fun b5347 b5348 => ?_))
    refine wl_of hX hb cL_1391 (rw_aload_n (pc' := 1392) (v := .ref 0) rfl rfl rfl ?_)
    refine wl_of hX hb cL_1392 (rw_iload (pc' := 1394) (z := i) rfl rfl ?_)
    refine wl_of hX hb cL_1394 (rw_iconst (pc' := 1395) rfl ?_)
    refine wl_of hX hb cL_1395 (rw_iadd (pc' := 1396) rfl ?_)
    have k5352 : H5328 0 ((i + 2).toNat) = H 0 ((i + 2).toNat) := (f5333 0 ((i + 2).toNat) _ g0 (wmem_s rfl))
    refine wl_of hX hb cL_1396 (xa_I (so := 0) (pc' := 1397) (a := 0) w5332 g0 (wsh_s _) (by omega) (wty_s _ _) (by omega) (by omega) rfl (fun b5350 b5351 => ?_))
    have k5353 : wKI H5328 m = wKI H m := (wKI_fr hW gm f5333 rfl)
    have k5354 : H5328 x 9 = H x 9 := (f5333 x 9 _ gx rfl)
    have k5355 : H5328 m 6 = H m 6 := (f5333 m 6 _ gm rfl)
    have k5356 : H5328 x 11 = H x 11 := (f5333 x 11 _ gx rfl)
    have k5357 : H5328 m 13 = H m 13 := (f5333 m 13 _ gm rfl)
    have k5358 : H5328 x 8 = H x 8 := (f5333 x 8 _ gx rfl)
    have k5359 : H5328 m 3 = H m 3 := (f5333 m 3 _ gm rfl)
    rw [show H5328 0 ((i + 2).toNat) = H 0 ((i + 2).toNat) by omega]
    rw [show H5328 0 ((i + 1).toNat) = H 0 ((i + 1).toNat) by omega]
    have h5360 : RB T H5328 m e8 d8 := (RB_fr hW gm f5333 rfl hrb8)
    have h5361 : KNN T H5328 m e8 d8 := (KNN_fr hW gm f5333 rfl hknn8)
    refine wl_of hX hb cL_1397 (xc_V (pc' := 1400) (r := m) (as := [vI (H 0 ((i + 1).toNat)), vI (H 0 ((i + 2).toNat))]) (st := []) (lm_11_186) rfl rfl (Nat.le_of_ble_eq_true rfl) w5332 gm sh_42 (by decide) rfl (by decide) (u_285 (e := e8) (d := d8) (y := ((H 0 ((i + 1).toNat)))) (w := (((H 0 ((i + 2).toNat)) + 1))) w5332 gm ⟨by omega, by omega⟩ ⟨by omega, by omega⟩ (by omega) (by omega) (by omega) h5360 h5361) (fun R5362 T5363 H5364 p5365 => ?_))
    obtain ⟨e5366, w5368, f5369, z5370, e5367, b5371, p5372⟩ := p5365
    subst e5366
    subst e5367
    rcases p5372 with ⟨a5373, a5374, a5375, a5376, a5377⟩ | ⟨a5378, a5379, a5380, a5381, a5382⟩
    · show WL _ _ _ _ 1400 [(4, vI i), (3, .ref o), (2, .ref m), (1, .ref x), (0, .ref 0)] [vI z5370] _ H5364
      refine wl_of hX hb cL_1400 (rw_pop (pc' := 1401) rfl rfl ?_)
      refine wl_of hX hb cL_1401 (rw_goto (p1 := 1653) (by decide) ?_)
      have k5383 : H5364 x 9 = H5328 x 9 := (f5369 x 9 _ gx rfl)
      have k5384 : H5364 m 6 = H5328 m 6 := (f5369 m 6 _ gm rfl)
      have k5385 : H5364 x 11 = H5328 x 11 := (f5369 x 11 _ gx rfl)
      have k5386 : H5364 m 13 = H5328 m 13 := (f5369 m 13 _ gm rfl)
      have k5387 : H5364 x 8 = H5328 x 8 := (f5369 x 8 _ gx rfl)
      have k5388 : H5364 m 3 = H5328 m 3 := (f5369 m 3 _ gm rfl)
      have k5389 : H5364 x 0 = H x 0 := ((f5369 x 0 _ gx rfl).trans (f5333 x 0 _ gx rfl))
      have q5390 : H5364 x 0 = (tc : Int) := k5389.trans e0
      have k5391 : H5364 m 5 = H m 5 := ((f5369 m 5 _ gm rfl).trans (f5333 m 5 _ gm rfl))
      have q5392 : H5364 m 5 = (tm : Int) := k5391.trans em
      have k5393 : H5364 x 6 = H x 6 := ((f5369 x 6 _ gx rfl).trans (f5333 x 6 _ gx rfl))
      have q5394 : H5364 x 6 = (cu : Int) := k5393.trans ecu
      have k5395 : H5364 x 7 = H x 7 := ((f5369 x 7 _ gx rfl).trans (f5333 x 7 _ gx rfl))
      have q5396 : H5364 x 7 = (dr : Int) := k5395.trans edr
      have h5397 : CEN T H5364 ce8 e8 d8 := (CEN_fr w5332 gce8 f5369 rfl a5340)
      have h5398 : TP T H5364 tc B := (TP_fr w5332 gtc f5369 rfl (TP_fr hW gtc f5333 rfl htc))
      have h5399 : TM T H5364 tm B := (TM_fr w5332 gtm f5369 rfl (TM_fr hW gtm f5333 rfl htm))
      have h5400 : DD T H5364 cu  := (DD_fr w5332 gcu f5369 rfl (DD_fr hW gcu f5333 rfl hcu))
      have h5401 : DD T H5364 dr  := (DD_fr w5332 gdr f5369 rfl (DD_fr hW gdr f5333 rfl hdr))
      have h5402 : DE T H5364 cu  := (DE_fr w5332 gcu f5369 rfl (DE_fr hW gcu f5333 rfl hdec))
      have h5403 : DE T H5364 dr  := (DE_fr w5332 gdr f5369 rfl (DE_fr hW gdr f5333 rfl hded))
      have h5404 : SP T H5364 x C8 := (SP_fr w5332 gx f5369 rfl (SP_fr hW gx f5333 rfl hsp))
      have h5405 : CU T H5364 cu e8 d8 n8 := (CU_fr w5332 gcu f5369 rfl a5339)
      have h5406 : CY T H5364 cu (d8 0 3) g8 (H cu 17) := (CY_fr w5332 gcu f5369 rfl (CY_fr hW gcu f5333 rfl h5324))
      have k5407 : H5364 x 3 = H x 3 := ((f5369 x 3 _ gx rfl).trans (f5333 x 3 _ gx rfl))
      have q5408 : H5364 x 3 = (ce8 : Int) := k5407.trans ece8
      have h5409 : HDR T H5364 ce8  := (HDR_fr w5332 gce8 f5369 rfl (HDR_fr hW gce8 f5333 rfl hhdr8))
      have h5410 : RY T H5364 m (d8 0 3) g8 (H m 32) := (RY_fr w5332 gm f5369 rfl (RY_fr hW gm f5333 rfl h5325))
      exact WL.loc hX (by simp) (next T H5364 ⟨⟨w5368, g0, gx, gm, go, by omega, by omega⟩, ⟨_, tc, tm, cu, dr, _, _, _, _, _, ce8, q5390, gtc, h5398, q5392, gtm, h5399, q5394, gcu, q5396, gdr, h5400, h5401, h5402, h5403, h5404, hC1, hC2, h5405, a5376, (h5406).1, (h5410).1, hE, hZ, (by omega), (by assumption), (by omega), (by first | assumption | exact SG_0), q5408, gce8, h5397, h5409, a5377, gm⟩, by omega, by omega⟩ (by omega) (by omega))
    · show WL _ _ _ _ 1400 [(4, vI i), (3, .ref o), (2, .ref m), (1, .ref x), (0, .ref 0)] [vI z5370] _ H5364
      refine wl_of hX hb cL_1400 (rw_pop (pc' := 1401) rfl rfl ?_)
      refine wl_of hX hb cL_1401 (rw_goto (p1 := 1653) (by decide) ?_)
      have k5411 : H5364 x 9 = H5328 x 9 := (f5369 x 9 _ gx rfl)
      have k5412 : H5364 m 6 = H5328 m 6 := (f5369 m 6 _ gm rfl)
      have k5413 : H5364 x 11 = H5328 x 11 := (f5369 x 11 _ gx rfl)
      have k5414 : H5364 m 13 = H5328 m 13 := (f5369 m 13 _ gm rfl)
      have k5415 : H5364 x 8 = H5328 x 8 := (f5369 x 8 _ gx rfl)
      have k5416 : H5364 m 3 = H5328 m 3 := (f5369 m 3 _ gm rfl)
      have k5417 : H5364 x 0 = H x 0 := ((f5369 x 0 _ gx rfl).trans (f5333 x 0 _ gx rfl))
      have q5418 : H5364 x 0 = (tc : Int) := k5417.trans e0
      have k5419 : H5364 m 5 = H m 5 := ((f5369 m 5 _ gm rfl).trans (f5333 m 5 _ gm rfl))
      have q5420 : H5364 m 5 = (tm : Int) := k5419.trans em
      have k5421 : H5364 x 6 = H x 6 := ((f5369 x 6 _ gx rfl).trans (f5333 x 6 _ gx rfl))
      have q5422 : H5364 x 6 = (cu : Int) := k5421.trans ecu
      have k5423 : H5364 x 7 = H x 7 := ((f5369 x 7 _ gx rfl).trans (f5333 x 7 _ gx rfl))
      have q5424 : H5364 x 7 = (dr : Int) := k5423.trans edr
      have h5425 : CEN T H5364 ce8 e8 d8 := (CEN_fr w5332 gce8 f5369 rfl a5340)
      have h5426 : TP T H5364 tc B := (TP_fr w5332 gtc f5369 rfl (TP_fr hW gtc f5333 rfl htc))
      have h5427 : TM T H5364 tm B := (TM_fr w5332 gtm f5369 rfl (TM_fr hW gtm f5333 rfl htm))
      have h5428 : DD T H5364 cu  := (DD_fr w5332 gcu f5369 rfl (DD_fr hW gcu f5333 rfl hcu))
      have h5429 : DD T H5364 dr  := (DD_fr w5332 gdr f5369 rfl (DD_fr hW gdr f5333 rfl hdr))
      have h5430 : DE T H5364 cu  := (DE_fr w5332 gcu f5369 rfl (DE_fr hW gcu f5333 rfl hdec))
      have h5431 : DE T H5364 dr  := (DE_fr w5332 gdr f5369 rfl (DE_fr hW gdr f5333 rfl hded))
      have h5432 : SP T H5364 x C8 := (SP_fr w5332 gx f5369 rfl (SP_fr hW gx f5333 rfl hsp))
      have h5433 : CU T H5364 cu e8 d8 n8 := (CU_fr w5332 gcu f5369 rfl a5339)
      have h5434 : CY T H5364 cu (d8 0 3) g8 (H cu 17) := (CY_fr w5332 gcu f5369 rfl (CY_fr hW gcu f5333 rfl h5324))
      have k5435 : H5364 x 3 = H x 3 := ((f5369 x 3 _ gx rfl).trans (f5333 x 3 _ gx rfl))
      have q5436 : H5364 x 3 = (ce8 : Int) := k5435.trans ece8
      have h5437 : HDR T H5364 ce8  := (HDR_fr w5332 gce8 f5369 rfl (HDR_fr hW gce8 f5333 rfl hhdr8))
      exfalso
      omega
  · show WL _ _ _ _ 1383 [(4, vI i), (3, .ref o), (2, .ref m), (1, .ref x), (0, .ref 0)] [vI z5334] _ H5328
    have u5438 := CU_k a5345
    refine wl_of hX hb cL_1383 (rw_pop (pc' := 1384) rfl rfl ?_)
    refine wl_of hX hb cL_1384 (rw_aload_n (pc' := 1385) (v := .ref m) rfl rfl rfl ?_)
    refine wl_of hX hb cL_1385 (rw_aload_n (pc' := 1386) (v := .ref 0) rfl rfl rfl ?_)
    refine wl_of hX hb cL_1386 (rw_iload (pc' := 1388) (z := i) rfl rfl ?_)
    refine wl_of hX hb cL_1388 (rw_iconst (pc' := 1389) rfl ?_)
    refine wl_of hX hb cL_1389 (rw_iadd (pc' := 1390) rfl ?_)
    have k5441 : H5328 0 ((i + 1).toNat) = H 0 ((i + 1).toNat) := (f5333 0 ((i + 1).toNat) _ g0 (wmem_s rfl))
    refine wl_of hX hb cL_1390 (xa_I (so := 0) (pc' := 1391) (a := 0) w5332 g0 (wsh_s _) (by omega) (wty_s _ _) (by omega) (by omega) rfl (fun b5439 b5440 => ?_))
    refine wl_of hX hb cL_1391 (rw_aload_n (pc' := 1392) (v := .ref 0) rfl rfl rfl ?_)
    refine wl_of hX hb cL_1392 (rw_iload (pc' := 1394) (z := i) rfl rfl ?_)
    refine wl_of hX hb cL_1394 (rw_iconst (pc' := 1395) rfl ?_)
    refine wl_of hX hb cL_1395 (rw_iadd (pc' := 1396) rfl ?_)
    have k5444 : H5328 0 ((i + 2).toNat) = H 0 ((i + 2).toNat) := (f5333 0 ((i + 2).toNat) _ g0 (wmem_s rfl))
    refine wl_of hX hb cL_1396 (xa_I (so := 0) (pc' := 1397) (a := 0) w5332 g0 (wsh_s _) (by omega) (wty_s _ _) (by omega) (by omega) rfl (fun b5442 b5443 => ?_))
    have k5445 : wKI H5328 m = wKI H m := (wKI_fr hW gm f5333 rfl)
    have k5446 : H5328 x 9 = H x 9 := (f5333 x 9 _ gx rfl)
    have k5447 : H5328 m 6 = H m 6 := (f5333 m 6 _ gm rfl)
    have k5448 : H5328 x 11 = H x 11 := (f5333 x 11 _ gx rfl)
    have k5449 : H5328 m 13 = H m 13 := (f5333 m 13 _ gm rfl)
    have k5450 : H5328 x 8 = H x 8 := (f5333 x 8 _ gx rfl)
    have k5451 : H5328 m 3 = H m 3 := (f5333 m 3 _ gm rfl)
    rw [show H5328 0 ((i + 2).toNat) = H 0 ((i + 2).toNat) by omega]
    rw [show H5328 0 ((i + 1).toNat) = H 0 ((i + 1).toNat) by omega]
    have h5452 : RB T H5328 m e8 d8 := (RB_fr hW gm f5333 rfl hrb8)
    have h5453 : KNN T H5328 m e8 d8 := (KNN_fr hW gm f5333 rfl hknn8)
    refine wl_of hX hb cL_1397 (xc_V (pc' := 1400) (r := m) (as := [vI (H 0 ((i + 1).toNat)), vI (H 0 ((i + 2).toNat))]) (st := []) (lm_11_186) rfl rfl (Nat.le_of_ble_eq_true rfl) w5332 gm sh_42 (by decide) rfl (by decide) (u_285 (e := e8) (d := d8) (y := ((H 0 ((i + 1).toNat)))) (w := (((H 0 ((i + 2).toNat)) + 1))) w5332 gm ⟨by omega, by omega⟩ ⟨by omega, by omega⟩ (by omega) (by omega) (by omega) h5452 h5453) (fun R5454 T5455 H5456 p5457 => ?_))
    obtain ⟨e5458, w5460, f5461, z5462, e5459, b5463, p5464⟩ := p5457
    subst e5458
    subst e5459
    rcases p5464 with ⟨a5465, a5466, a5467, a5468, a5469⟩ | ⟨a5470, a5471, a5472, a5473, a5474⟩
    · show WL _ _ _ _ 1400 [(4, vI i), (3, .ref o), (2, .ref m), (1, .ref x), (0, .ref 0)] [vI z5462] _ H5456
      refine wl_of hX hb cL_1400 (rw_pop (pc' := 1401) rfl rfl ?_)
      refine wl_of hX hb cL_1401 (rw_goto (p1 := 1653) (by decide) ?_)
      have k5475 : H5456 x 9 = H5328 x 9 := (f5461 x 9 _ gx rfl)
      have k5476 : H5456 m 6 = H5328 m 6 := (f5461 m 6 _ gm rfl)
      have k5477 : H5456 x 11 = H5328 x 11 := (f5461 x 11 _ gx rfl)
      have k5478 : H5456 m 13 = H5328 m 13 := (f5461 m 13 _ gm rfl)
      have k5479 : H5456 x 8 = H5328 x 8 := (f5461 x 8 _ gx rfl)
      have k5480 : H5456 m 3 = H5328 m 3 := (f5461 m 3 _ gm rfl)
      have k5481 : H5456 x 0 = H x 0 := ((f5461 x 0 _ gx rfl).trans (f5333 x 0 _ gx rfl))
      have q5482 : H5456 x 0 = (tc : Int) := k5481.trans e0
      have k5483 : H5456 m 5 = H m 5 := ((f5461 m 5 _ gm rfl).trans (f5333 m 5 _ gm rfl))
      have q5484 : H5456 m 5 = (tm : Int) := k5483.trans em
      have k5485 : H5456 x 6 = H x 6 := ((f5461 x 6 _ gx rfl).trans (f5333 x 6 _ gx rfl))
      have q5486 : H5456 x 6 = (cu : Int) := k5485.trans ecu
      have k5487 : H5456 x 7 = H x 7 := ((f5461 x 7 _ gx rfl).trans (f5333 x 7 _ gx rfl))
      have q5488 : H5456 x 7 = (dr : Int) := k5487.trans edr
      have k5489 : H5456 ce8 9 = H5328 ce8 9 := (f5461 ce8 9 _ gce8 rfl)
      have h5490 : TP T H5456 tc B := (TP_fr w5332 gtc f5461 rfl (TP_fr hW gtc f5333 rfl htc))
      have h5491 : TM T H5456 tm B := (TM_fr w5332 gtm f5461 rfl (TM_fr hW gtm f5333 rfl htm))
      have h5492 : DD T H5456 cu  := (DD_fr w5332 gcu f5461 rfl (DD_fr hW gcu f5333 rfl hcu))
      have h5493 : DD T H5456 dr  := (DD_fr w5332 gdr f5461 rfl (DD_fr hW gdr f5333 rfl hdr))
      have h5494 : DE T H5456 cu  := (DE_fr w5332 gcu f5461 rfl (DE_fr hW gcu f5333 rfl hdec))
      have h5495 : DE T H5456 dr  := (DE_fr w5332 gdr f5461 rfl (DE_fr hW gdr f5333 rfl hded))
      have h5496 : SP T H5456 x C8 := (SP_fr w5332 gx f5461 rfl (SP_fr hW gx f5333 rfl hsp))
      have h5497 : CU T H5456 cu (wq_u e8 13 (((H 0 ((i + 1).toNat)))).toNat (((H 0 ((i + 2).toNat)) + 1))) d8 n8 := (CU_fr w5332 gcu f5461 rfl a5345)
      have h5498 : CY T H5456 cu (d8 0 3) g8 (H cu 17) := (CY_fr w5332 gcu f5461 rfl (CY_fr hW gcu f5333 rfl h5324))
      have k5499 : H5456 x 3 = H x 3 := ((f5461 x 3 _ gx rfl).trans (f5333 x 3 _ gx rfl))
      have q5500 : H5456 x 3 = (ce8 : Int) := k5499.trans ece8
      have h5501 : HDR T H5456 ce8  := (HDR_fr w5332 gce8 f5461 rfl (HDR_fr hW gce8 f5333 rfl hhdr8))
      exfalso
      omega
    · show WL _ _ _ _ 1400 [(4, vI i), (3, .ref o), (2, .ref m), (1, .ref x), (0, .ref 0)] [vI z5462] _ H5456
      refine wl_of hX hb cL_1400 (rw_pop (pc' := 1401) rfl rfl ?_)
      refine wl_of hX hb cL_1401 (rw_goto (p1 := 1653) (by decide) ?_)
      have k5502 : H5456 x 9 = H5328 x 9 := (f5461 x 9 _ gx rfl)
      have k5503 : H5456 m 6 = H5328 m 6 := (f5461 m 6 _ gm rfl)
      have k5504 : H5456 x 11 = H5328 x 11 := (f5461 x 11 _ gx rfl)
      have k5505 : H5456 m 13 = H5328 m 13 := (f5461 m 13 _ gm rfl)
      have k5506 : H5456 x 8 = H5328 x 8 := (f5461 x 8 _ gx rfl)
      have k5507 : H5456 m 3 = H5328 m 3 := (f5461 m 3 _ gm rfl)
      have k5508 : H5456 x 0 = H x 0 := ((f5461 x 0 _ gx rfl).trans (f5333 x 0 _ gx rfl))
      have q5509 : H5456 x 0 = (tc : Int) := k5508.trans e0
      have k5510 : H5456 m 5 = H m 5 := ((f5461 m 5 _ gm rfl).trans (f5333 m 5 _ gm rfl))
      have q5511 : H5456 m 5 = (tm : Int) := k5510.trans em
      have k5512 : H5456 x 6 = H x 6 := ((f5461 x 6 _ gx rfl).trans (f5333 x 6 _ gx rfl))
      have q5513 : H5456 x 6 = (cu : Int) := k5512.trans ecu
      have k5514 : H5456 x 7 = H x 7 := ((f5461 x 7 _ gx rfl).trans (f5333 x 7 _ gx rfl))
      have q5515 : H5456 x 7 = (dr : Int) := k5514.trans edr
      have k5516 : H5456 ce8 9 = H5328 ce8 9 := (f5461 ce8 9 _ gce8 rfl)
      have h5517 : TP T H5456 tc B := (TP_fr w5332 gtc f5461 rfl (TP_fr hW gtc f5333 rfl htc))
      have h5518 : TM T H5456 tm B := (TM_fr w5332 gtm f5461 rfl (TM_fr hW gtm f5333 rfl htm))
      have h5519 : DD T H5456 cu  := (DD_fr w5332 gcu f5461 rfl (DD_fr hW gcu f5333 rfl hcu))
      have h5520 : DD T H5456 dr  := (DD_fr w5332 gdr f5461 rfl (DD_fr hW gdr f5333 rfl hdr))
      have h5521 : DE T H5456 cu  := (DE_fr w5332 gcu f5461 rfl (DE_fr hW gcu f5333 rfl hdec))
      have h5522 : DE T H5456 dr  := (DE_fr w5332 gdr f5461 rfl (DE_fr hW gdr f5333 rfl hded))
      have h5523 : SP T H5456 x C8 := (SP_fr w5332 gx f5461 rfl (SP_fr hW gx f5333 rfl hsp))
      have h5524 : CU T H5456 cu (wq_u e8 13 (((H 0 ((i + 1).toNat)))).toNat (((H 0 ((i + 2).toNat)) + 1))) d8 n8 := (CU_fr w5332 gcu f5461 rfl a5345)
      have h5525 : CY T H5456 cu (d8 0 3) g8 (H cu 17) := (CY_fr w5332 gcu f5461 rfl (CY_fr hW gcu f5333 rfl h5324))
      have k5526 : H5456 x 3 = H x 3 := ((f5461 x 3 _ gx rfl).trans (f5333 x 3 _ gx rfl))
      have q5527 : H5456 x 3 = (ce8 : Int) := k5526.trans ece8
      have h5528 : HDR T H5456 ce8  := (HDR_fr w5332 gce8 f5461 rfl (HDR_fr hW gce8 f5333 rfl hhdr8))
      have h5529 : RY T H5456 m (d8 0 3) g8 (H m 32) := (RY_fr w5332 gm f5461 rfl (RY_fr hW gm f5333 rfl h5325))
      exact WL.loc hX (by simp) (next T H5456 ⟨⟨w5460, g0, gx, gm, go, by omega, by omega⟩, ⟨_, tc, tm, cu, dr, _, _, _, _, _, ce8, q5509, gtc, h5517, q5511, gtm, h5518, q5513, gcu, q5515, gdr, h5519, h5520, h5521, h5522, h5523, hC1, hC2, h5524, a5474, (h5525).1, (h5529).1, (fun i hi => (wq_u_row hi).trans (hE i hi)), (fun h h1 h2 => by rw [wq_u_e2 (fun c => by omega)]; exact hZ h h1 h2), (by omega), (by assumption), (by omega), (by first | assumption | exact SG_0), q5527, gce8, (by first | assumption | exact CEN_new (by omega)), h5528, (by first | assumption | exact KNN_new (by omega)), gm⟩, by omega, by omega⟩ (by omega) (by omega))
set_option maxHeartbeats 4000000 in
theorem wl_c40 {kt : Nat → Option mc_E} {CB SB : Nat} {X : mc_S → Prop} {T : wq_T} {H : wq_H} {Len x m o : Nat} {i : Int} (hX : wlX kt CB SB X) (hb : T.2.1 ≤ CB ∧ T.2.2.1 ≤ SB) (hI : wlJ Len x m o T H) (hL : Len ≤ 3072) (hi : 0 ≤ i ∧ i + 6 ≤ Len) (hb2 : T.2.1 + 20 ≤ CB ∧ T.2.2.1 + 500 ≤ SB)  (next : ∀ T' H', wlJ Len x m o T' H' → T'.2.1 ≤ T.2.1 + 20 → T'.2.2.1 ≤ T.2.2.1 + 500 → WL kt CB SB X 1653 (wlL i x m o) [] T' H') : WL kt CB SB X 1404 (wlL i x m o) [] T H := by
  obtain ⟨⟨hW, g0, gx, gm, go, hK, hr⟩, hXI, hY1, hY2⟩ := hI
  refine wl_of hX hb cL_1404 (rw_aload_n (pc' := 1405) (v := .ref x) rfl rfl rfl ?_)
  refine wl_of hX hb cL_1405 (rw_aload_n (pc' := 1406) (v := .ref 0) rfl rfl rfl ?_)
  refine wl_of hX hb cL_1406 (rw_iload (pc' := 1408) (z := i) rfl rfl ?_)
  refine wl_of hX hb cL_1408 (rw_iconst (pc' := 1409) rfl ?_)
  refine wl_of hX hb cL_1409 (rw_iadd (pc' := 1410) rfl ?_)
  refine wl_of hX hb cL_1410 (xa_I (so := 0) (pc' := 1411) (a := 0) hW g0 (wsh_s _) (by omega) (wty_s _ _) (by omega) (by omega) rfl (fun b5530 b5531 => ?_))
  obtain ⟨B, tc, tm, cu, dr, C8, e8, d8, n8, g8, ce8, e0, gtc, htc, em, gtm, htm, ecu, gcu, edr, gdr, hcu, hdr, hdec, hded, hsp, hC1, hC2, hcu8, hrb8, hcg8, hmn8, hE, hZ, hn8, hXA, hV8, hSG, ece8, gce8, hcen8, hhdr8, hknn8, -⟩ := hXI
  have hN3 := RB_n3 hrb8
  have hE13 : ∀ h : Nat, h < 24 → 0 ≤ e8 13 h ∧ e8 13 h ≤ 100 := fun k hk => by
    obtain ⟨s, h1, h2, h3⟩ := hcu8.1.2.2.1
    exact ⟨(h3 k hk).1, (h3 k hk).2.1⟩
  have hXW := hXA.1
  have hXN := hXA.2
  have hE0 : e8 0 3 = d8 0 3 ∧ e8 0 0 = d8 0 0 := by
    have h := hE 0 (by decide)
    exact ⟨congrFun h 3, congrFun h 0⟩
  have u5532 := CU_k hcu8
  have h5533 : CY T H cu (d8 0 3) g8 (H cu 17) := ⟨hcg8, rfl⟩
  have h5534 : RY T H m (d8 0 3) g8 (H m 32) := ⟨hmn8, rfl⟩
  obtain ⟨t9, ht9⟩ : ∃ t : Int, t = H x 9 := ⟨_, rfl⟩
  obtain ⟨y9, hy9⟩ : ∃ y : Int, y = H 0 ((i + 1).toNat) := ⟨_, rfl⟩
  refine wl_of hX hb cL_1411 (xc_V (pc' := 1414) (r := x) (as := [vI (H 0 ((i + 1).toNat))]) (st := []) (lm_11_187) rfl rfl (Nat.le_of_ble_eq_true rfl) hW gx sh_1 (by decide) rfl (by decide) (u_154 (e := e8) (d := d8) (n := n8) (y := ((H 0 ((i + 1).toNat)))) hW gx ⟨by omega, by omega⟩ ecu gcu ece8 gce8 (by omega) (by omega) (by omega) hcu8 hcen8) (fun R5535 T5536 H5537 p5538 => ?_))
  obtain ⟨e5539, w5541, f5542, z5543, e5540, b5544, p5545⟩ := p5538
  subst e5539
  subst e5540
  rcases p5545 with ⟨a5546, a5547, a5548, a5549, a5550⟩ | ⟨a5551, a5552, a5553, a5554⟩
  · show WL _ _ _ _ 1414 [(4, vI i), (3, .ref o), (2, .ref m), (1, .ref x), (0, .ref 0)] [vI z5543] _ H5537
    have u5555 := CU_k a5550
    refine wl_of hX hb cL_1414 (rw_pop (pc' := 1415) rfl rfl ?_)
    refine wl_of hX hb cL_1415 (rw_aload_n (pc' := 1416) (v := .ref m) rfl rfl rfl ?_)
    refine wl_of hX hb cL_1416 (rw_aload_n (pc' := 1417) (v := .ref 0) rfl rfl rfl ?_)
    refine wl_of hX hb cL_1417 (rw_iload (pc' := 1419) (z := i) rfl rfl ?_)
    refine wl_of hX hb cL_1419 (rw_iconst (pc' := 1420) rfl ?_)
    refine wl_of hX hb cL_1420 (rw_iadd (pc' := 1421) rfl ?_)
    have k5558 : H5537 0 ((i + 1).toNat) = H 0 ((i + 1).toNat) := (f5542 0 ((i + 1).toNat) _ g0 (wmem_s rfl))
    refine wl_of hX hb cL_1421 (xa_I (so := 0) (pc' := 1422) (a := 0) w5541 g0 (wsh_s _) (by omega) (wty_s _ _) (by omega) (by omega) rfl (fun b5556 b5557 => ?_))
    have k5559 : wKI H5537 m = wKI H m := (wKI_fr hW gm f5542 rfl)
    have k5560 : H5537 x 9 = H x 9 := (f5542 x 9 _ gx rfl)
    have k5561 : H5537 m 6 = H m 6 := (f5542 m 6 _ gm rfl)
    have k5562 : H5537 x 11 = H x 11 := (f5542 x 11 _ gx rfl)
    have k5563 : H5537 m 13 = H m 13 := (f5542 m 13 _ gm rfl)
    have k5564 : H5537 x 8 = H x 8 := (f5542 x 8 _ gx rfl)
    have k5565 : H5537 m 3 = H m 3 := (f5542 m 3 _ gm rfl)
    rw [show H5537 0 ((i + 1).toNat) = H 0 ((i + 1).toNat) by omega]
    have h5566 : RB T H5537 m e8 d8 := (RB_fr hW gm f5542 rfl hrb8)
    have h5567 : KNN T H5537 m e8 d8 := (KNN_fr hW gm f5542 rfl hknn8)
    refine wl_of hX hb cL_1422 (xc_V (pc' := 1425) (r := m) (as := [vI (H 0 ((i + 1).toNat))]) (st := []) (lm_11_191) rfl rfl (Nat.le_of_ble_eq_true rfl) w5541 gm sh_42 (by decide) rfl (by decide) (u_286 (e := e8) (d := d8) (y := ((H 0 ((i + 1).toNat)))) w5541 gm ⟨by omega, by omega⟩ (by omega) (by omega) h5566 h5567) (fun R5568 T5569 H5570 p5571 => ?_))
    obtain ⟨e5572, w5574, f5575, z5576, e5573, b5577, p5578⟩ := p5571
    subst e5572
    subst e5573
    rcases p5578 with ⟨a5579, a5580, a5581, a5582, a5583, a5584⟩ | ⟨a5585, a5586, a5587, a5588, a5589⟩
    · show WL _ _ _ _ 1425 [(4, vI i), (3, .ref o), (2, .ref m), (1, .ref x), (0, .ref 0)] [vI z5576] _ H5570
      refine wl_of hX hb cL_1425 (rw_pop (pc' := 1426) rfl rfl ?_)
      refine wl_of hX hb cL_1426 (rw_goto (p1 := 1653) (by decide) ?_)
      have k5590 : H5570 x 9 = H5537 x 9 := (f5575 x 9 _ gx rfl)
      have k5591 : H5570 m 6 = H5537 m 6 := (f5575 m 6 _ gm rfl)
      have k5592 : H5570 x 11 = H5537 x 11 := (f5575 x 11 _ gx rfl)
      have k5593 : H5570 m 13 = H5537 m 13 := (f5575 m 13 _ gm rfl)
      have k5594 : H5570 x 8 = H5537 x 8 := (f5575 x 8 _ gx rfl)
      have k5595 : H5570 m 3 = H5537 m 3 := (f5575 m 3 _ gm rfl)
      have k5596 : H5570 x 0 = H x 0 := ((f5575 x 0 _ gx rfl).trans (f5542 x 0 _ gx rfl))
      have q5597 : H5570 x 0 = (tc : Int) := k5596.trans e0
      have k5598 : H5570 m 5 = H m 5 := ((f5575 m 5 _ gm rfl).trans (f5542 m 5 _ gm rfl))
      have q5599 : H5570 m 5 = (tm : Int) := k5598.trans em
      have k5600 : H5570 x 6 = H x 6 := ((f5575 x 6 _ gx rfl).trans (f5542 x 6 _ gx rfl))
      have q5601 : H5570 x 6 = (cu : Int) := k5600.trans ecu
      have k5602 : H5570 x 7 = H x 7 := ((f5575 x 7 _ gx rfl).trans (f5542 x 7 _ gx rfl))
      have q5603 : H5570 x 7 = (dr : Int) := k5602.trans edr
      have k5604 : H5570 ce8 9 = H5537 ce8 9 := (f5575 ce8 9 _ gce8 rfl)
      have h5605 : TP T H5570 tc B := (TP_fr w5541 gtc f5575 rfl (TP_fr hW gtc f5542 rfl htc))
      have h5606 : TM T H5570 tm B := (TM_fr w5541 gtm f5575 rfl (TM_fr hW gtm f5542 rfl htm))
      have h5607 : DD T H5570 cu  := (DD_fr w5541 gcu f5575 rfl (DD_fr hW gcu f5542 rfl hcu))
      have h5608 : DD T H5570 dr  := (DD_fr w5541 gdr f5575 rfl (DD_fr hW gdr f5542 rfl hdr))
      have h5609 : DE T H5570 cu  := (DE_fr w5541 gcu f5575 rfl (DE_fr hW gcu f5542 rfl hdec))
      have h5610 : DE T H5570 dr  := (DE_fr w5541 gdr f5575 rfl (DE_fr hW gdr f5542 rfl hded))
      have h5611 : SP T H5570 x C8 := (SP_fr w5541 gx f5575 rfl (SP_fr hW gx f5542 rfl hsp))
      have h5612 : CU T H5570 cu (wq_u e8 13 (((H 0 ((i + 1).toNat)))).toNat 0) d8 n8 := (CU_fr w5541 gcu f5575 rfl a5550)
      have h5613 : CY T H5570 cu (d8 0 3) g8 (H cu 17) := (CY_fr w5541 gcu f5575 rfl (CY_fr hW gcu f5542 rfl h5533))
      have k5614 : H5570 x 3 = H x 3 := ((f5575 x 3 _ gx rfl).trans (f5542 x 3 _ gx rfl))
      have q5615 : H5570 x 3 = (ce8 : Int) := k5614.trans ece8
      have h5616 : HDR T H5570 ce8  := (HDR_fr w5541 gce8 f5575 rfl (HDR_fr hW gce8 f5542 rfl hhdr8))
      have h5617 : RY T H5570 m (d8 0 3) g8 (H m 32) := (RY_fr w5541 gm f5575 rfl (RY_fr hW gm f5542 rfl h5534))
      exact WL.loc hX (by simp) (next T H5570 ⟨⟨w5574, g0, gx, gm, go, by omega, by omega⟩, ⟨_, tc, tm, cu, dr, _, _, _, _, _, ce8, q5597, gtc, h5605, q5599, gtm, h5606, q5601, gcu, q5603, gdr, h5607, h5608, h5609, h5610, h5611, hC1, hC2, h5612, a5584, (h5613).1, (h5617).1, (fun i hi => (wq_u_row hi).trans (hE i hi)), (fun h h1 h2 => by rw [wq_u_e2 (fun c => by omega)]; exact hZ h h1 h2), (by omega), (by assumption), (by omega), (by first | assumption | exact SG_0), q5615, gce8, (by first | assumption | exact CEN_new (by omega)), h5616, (by first | assumption | exact KNN_new (by omega)), gm⟩, by omega, by omega⟩ (by omega) (by omega))
    · show WL _ _ _ _ 1425 [(4, vI i), (3, .ref o), (2, .ref m), (1, .ref x), (0, .ref 0)] [vI z5576] _ H5570
      refine wl_of hX hb cL_1425 (rw_pop (pc' := 1426) rfl rfl ?_)
      refine wl_of hX hb cL_1426 (rw_goto (p1 := 1653) (by decide) ?_)
      have k5618 : H5570 x 9 = H5537 x 9 := (f5575 x 9 _ gx rfl)
      have k5619 : H5570 m 6 = H5537 m 6 := (f5575 m 6 _ gm rfl)
      have k5620 : H5570 x 11 = H5537 x 11 := (f5575 x 11 _ gx rfl)
      have k5621 : H5570 m 13 = H5537 m 13 := (f5575 m 13 _ gm rfl)
      have k5622 : H5570 x 8 = H5537 x 8 := (f5575 x 8 _ gx rfl)
      have k5623 : H5570 m 3 = H5537 m 3 := (f5575 m 3 _ gm rfl)
      have k5624 : H5570 x 0 = H x 0 := ((f5575 x 0 _ gx rfl).trans (f5542 x 0 _ gx rfl))
      have q5625 : H5570 x 0 = (tc : Int) := k5624.trans e0
      have k5626 : H5570 m 5 = H m 5 := ((f5575 m 5 _ gm rfl).trans (f5542 m 5 _ gm rfl))
      have q5627 : H5570 m 5 = (tm : Int) := k5626.trans em
      have k5628 : H5570 x 6 = H x 6 := ((f5575 x 6 _ gx rfl).trans (f5542 x 6 _ gx rfl))
      have q5629 : H5570 x 6 = (cu : Int) := k5628.trans ecu
      have k5630 : H5570 x 7 = H x 7 := ((f5575 x 7 _ gx rfl).trans (f5542 x 7 _ gx rfl))
      have q5631 : H5570 x 7 = (dr : Int) := k5630.trans edr
      have k5632 : H5570 ce8 9 = H5537 ce8 9 := (f5575 ce8 9 _ gce8 rfl)
      have h5633 : TP T H5570 tc B := (TP_fr w5541 gtc f5575 rfl (TP_fr hW gtc f5542 rfl htc))
      have h5634 : TM T H5570 tm B := (TM_fr w5541 gtm f5575 rfl (TM_fr hW gtm f5542 rfl htm))
      have h5635 : DD T H5570 cu  := (DD_fr w5541 gcu f5575 rfl (DD_fr hW gcu f5542 rfl hcu))
      have h5636 : DD T H5570 dr  := (DD_fr w5541 gdr f5575 rfl (DD_fr hW gdr f5542 rfl hdr))
      have h5637 : DE T H5570 cu  := (DE_fr w5541 gcu f5575 rfl (DE_fr hW gcu f5542 rfl hdec))
      have h5638 : DE T H5570 dr  := (DE_fr w5541 gdr f5575 rfl (DE_fr hW gdr f5542 rfl hded))
      have h5639 : SP T H5570 x C8 := (SP_fr w5541 gx f5575 rfl (SP_fr hW gx f5542 rfl hsp))
      have h5640 : CU T H5570 cu (wq_u e8 13 (((H 0 ((i + 1).toNat)))).toNat 0) d8 n8 := (CU_fr w5541 gcu f5575 rfl a5550)
      have h5641 : CY T H5570 cu (d8 0 3) g8 (H cu 17) := (CY_fr w5541 gcu f5575 rfl (CY_fr hW gcu f5542 rfl h5533))
      have k5642 : H5570 x 3 = H x 3 := ((f5575 x 3 _ gx rfl).trans (f5542 x 3 _ gx rfl))
      have q5643 : H5570 x 3 = (ce8 : Int) := k5642.trans ece8
      have h5644 : HDR T H5570 ce8  := (HDR_fr w5541 gce8 f5575 rfl (HDR_fr hW gce8 f5542 rfl hhdr8))
      exfalso
      omega
  · show WL _ _ _ _ 1414 [(4, vI i), (3, .ref o), (2, .ref m), (1, .ref x), (0, .ref 0)] [vI z5543] _ H5537
    have u5645 := CU_k a5553
    refine wl_of hX hb cL_1414 (rw_pop (pc' := 1415) rfl rfl ?_)
    refine wl_of hX hb cL_1415 (rw_aload_n (pc' := 1416) (v := .ref m) rfl rfl rfl ?_)
    refine wl_of hX hb cL_1416 (rw_aload_n (pc' := 1417) (v := .ref 0) rfl rfl rfl ?_)
    refine wl_of hX hb cL_1417 (rw_iload (pc' := 1419) (z := i) rfl rfl ?_)
    refine wl_of hX hb cL_1419 (rw_iconst (pc' := 1420) rfl ?_)
    refine wl_of hX hb cL_1420 (rw_iadd (pc' := 1421) rfl ?_)
    have k5648 : H5537 0 ((i + 1).toNat) = H 0 ((i + 1).toNat) := (f5542 0 ((i + 1).toNat) _ g0 (wmem_s rfl))
    refine wl_of hX hb cL_1421 (xa_I (so := 0) (pc' := 1422) (a := 0) w5541 g0 (wsh_s _) (by omega) (wty_s _ _) (by omega) (by omega) rfl (fun b5646 b5647 => ?_))
    have k5649 : wKI H5537 m = wKI H m := (wKI_fr hW gm f5542 rfl)
    have k5650 : H5537 x 9 = H x 9 := (f5542 x 9 _ gx rfl)
    have k5651 : H5537 m 6 = H m 6 := (f5542 m 6 _ gm rfl)
    have k5652 : H5537 x 11 = H x 11 := (f5542 x 11 _ gx rfl)
    have k5653 : H5537 m 13 = H m 13 := (f5542 m 13 _ gm rfl)
    have k5654 : H5537 x 8 = H x 8 := (f5542 x 8 _ gx rfl)
    have k5655 : H5537 m 3 = H m 3 := (f5542 m 3 _ gm rfl)
    rw [show H5537 0 ((i + 1).toNat) = H 0 ((i + 1).toNat) by omega]
    have h5656 : RB T H5537 m e8 d8 := (RB_fr hW gm f5542 rfl hrb8)
    have h5657 : KNN T H5537 m e8 d8 := (KNN_fr hW gm f5542 rfl hknn8)
    refine wl_of hX hb cL_1422 (xc_V (pc' := 1425) (r := m) (as := [vI (H 0 ((i + 1).toNat))]) (st := []) (lm_11_191) rfl rfl (Nat.le_of_ble_eq_true rfl) w5541 gm sh_42 (by decide) rfl (by decide) (u_286 (e := e8) (d := d8) (y := ((H 0 ((i + 1).toNat)))) w5541 gm ⟨by omega, by omega⟩ (by omega) (by omega) h5656 h5657) (fun R5658 T5659 H5660 p5661 => ?_))
    obtain ⟨e5662, w5664, f5665, z5666, e5663, b5667, p5668⟩ := p5661
    subst e5662
    subst e5663
    rcases p5668 with ⟨a5669, a5670, a5671, a5672, a5673, a5674⟩ | ⟨a5675, a5676, a5677, a5678, a5679⟩
    · show WL _ _ _ _ 1425 [(4, vI i), (3, .ref o), (2, .ref m), (1, .ref x), (0, .ref 0)] [vI z5666] _ H5660
      refine wl_of hX hb cL_1425 (rw_pop (pc' := 1426) rfl rfl ?_)
      refine wl_of hX hb cL_1426 (rw_goto (p1 := 1653) (by decide) ?_)
      have k5680 : H5660 x 9 = H5537 x 9 := (f5665 x 9 _ gx rfl)
      have k5681 : H5660 m 6 = H5537 m 6 := (f5665 m 6 _ gm rfl)
      have k5682 : H5660 x 11 = H5537 x 11 := (f5665 x 11 _ gx rfl)
      have k5683 : H5660 m 13 = H5537 m 13 := (f5665 m 13 _ gm rfl)
      have k5684 : H5660 x 8 = H5537 x 8 := (f5665 x 8 _ gx rfl)
      have k5685 : H5660 m 3 = H5537 m 3 := (f5665 m 3 _ gm rfl)
      have k5686 : H5660 x 0 = H x 0 := ((f5665 x 0 _ gx rfl).trans (f5542 x 0 _ gx rfl))
      have q5687 : H5660 x 0 = (tc : Int) := k5686.trans e0
      have k5688 : H5660 m 5 = H m 5 := ((f5665 m 5 _ gm rfl).trans (f5542 m 5 _ gm rfl))
      have q5689 : H5660 m 5 = (tm : Int) := k5688.trans em
      have k5690 : H5660 x 6 = H x 6 := ((f5665 x 6 _ gx rfl).trans (f5542 x 6 _ gx rfl))
      have q5691 : H5660 x 6 = (cu : Int) := k5690.trans ecu
      have k5692 : H5660 x 7 = H x 7 := ((f5665 x 7 _ gx rfl).trans (f5542 x 7 _ gx rfl))
      have q5693 : H5660 x 7 = (dr : Int) := k5692.trans edr
      have h5694 : CEN T H5660 ce8 e8 d8 := (CEN_fr w5541 gce8 f5665 rfl a5554)
      have h5695 : TP T H5660 tc B := (TP_fr w5541 gtc f5665 rfl (TP_fr hW gtc f5542 rfl htc))
      have h5696 : TM T H5660 tm B := (TM_fr w5541 gtm f5665 rfl (TM_fr hW gtm f5542 rfl htm))
      have h5697 : DD T H5660 cu  := (DD_fr w5541 gcu f5665 rfl (DD_fr hW gcu f5542 rfl hcu))
      have h5698 : DD T H5660 dr  := (DD_fr w5541 gdr f5665 rfl (DD_fr hW gdr f5542 rfl hdr))
      have h5699 : DE T H5660 cu  := (DE_fr w5541 gcu f5665 rfl (DE_fr hW gcu f5542 rfl hdec))
      have h5700 : DE T H5660 dr  := (DE_fr w5541 gdr f5665 rfl (DE_fr hW gdr f5542 rfl hded))
      have h5701 : SP T H5660 x C8 := (SP_fr w5541 gx f5665 rfl (SP_fr hW gx f5542 rfl hsp))
      have h5702 : CU T H5660 cu e8 d8 n8 := (CU_fr w5541 gcu f5665 rfl a5553)
      have h5703 : CY T H5660 cu (d8 0 3) g8 (H cu 17) := (CY_fr w5541 gcu f5665 rfl (CY_fr hW gcu f5542 rfl h5533))
      have k5704 : H5660 x 3 = H x 3 := ((f5665 x 3 _ gx rfl).trans (f5542 x 3 _ gx rfl))
      have q5705 : H5660 x 3 = (ce8 : Int) := k5704.trans ece8
      have h5706 : HDR T H5660 ce8  := (HDR_fr w5541 gce8 f5665 rfl (HDR_fr hW gce8 f5542 rfl hhdr8))
      exfalso
      omega
    · show WL _ _ _ _ 1425 [(4, vI i), (3, .ref o), (2, .ref m), (1, .ref x), (0, .ref 0)] [vI z5666] _ H5660
      refine wl_of hX hb cL_1425 (rw_pop (pc' := 1426) rfl rfl ?_)
      refine wl_of hX hb cL_1426 (rw_goto (p1 := 1653) (by decide) ?_)
      have k5707 : H5660 x 9 = H5537 x 9 := (f5665 x 9 _ gx rfl)
      have k5708 : H5660 m 6 = H5537 m 6 := (f5665 m 6 _ gm rfl)
      have k5709 : H5660 x 11 = H5537 x 11 := (f5665 x 11 _ gx rfl)
      have k5710 : H5660 m 13 = H5537 m 13 := (f5665 m 13 _ gm rfl)
      have k5711 : H5660 x 8 = H5537 x 8 := (f5665 x 8 _ gx rfl)
      have k5712 : H5660 m 3 = H5537 m 3 := (f5665 m 3 _ gm rfl)
      have k5713 : H5660 x 0 = H x 0 := ((f5665 x 0 _ gx rfl).trans (f5542 x 0 _ gx rfl))
      have q5714 : H5660 x 0 = (tc : Int) := k5713.trans e0
      have k5715 : H5660 m 5 = H m 5 := ((f5665 m 5 _ gm rfl).trans (f5542 m 5 _ gm rfl))
      have q5716 : H5660 m 5 = (tm : Int) := k5715.trans em
      have k5717 : H5660 x 6 = H x 6 := ((f5665 x 6 _ gx rfl).trans (f5542 x 6 _ gx rfl))
      have q5718 : H5660 x 6 = (cu : Int) := k5717.trans ecu
      have k5719 : H5660 x 7 = H x 7 := ((f5665 x 7 _ gx rfl).trans (f5542 x 7 _ gx rfl))
      have q5720 : H5660 x 7 = (dr : Int) := k5719.trans edr
      have h5721 : CEN T H5660 ce8 e8 d8 := (CEN_fr w5541 gce8 f5665 rfl a5554)
      have h5722 : TP T H5660 tc B := (TP_fr w5541 gtc f5665 rfl (TP_fr hW gtc f5542 rfl htc))
      have h5723 : TM T H5660 tm B := (TM_fr w5541 gtm f5665 rfl (TM_fr hW gtm f5542 rfl htm))
      have h5724 : DD T H5660 cu  := (DD_fr w5541 gcu f5665 rfl (DD_fr hW gcu f5542 rfl hcu))
      have h5725 : DD T H5660 dr  := (DD_fr w5541 gdr f5665 rfl (DD_fr hW gdr f5542 rfl hdr))
      have h5726 : DE T H5660 cu  := (DE_fr w5541 gcu f5665 rfl (DE_fr hW gcu f5542 rfl hdec))
      have h5727 : DE T H5660 dr  := (DE_fr w5541 gdr f5665 rfl (DE_fr hW gdr f5542 rfl hded))
      have h5728 : SP T H5660 x C8 := (SP_fr w5541 gx f5665 rfl (SP_fr hW gx f5542 rfl hsp))
      have h5729 : CU T H5660 cu e8 d8 n8 := (CU_fr w5541 gcu f5665 rfl a5553)
      have h5730 : CY T H5660 cu (d8 0 3) g8 (H cu 17) := (CY_fr w5541 gcu f5665 rfl (CY_fr hW gcu f5542 rfl h5533))
      have k5731 : H5660 x 3 = H x 3 := ((f5665 x 3 _ gx rfl).trans (f5542 x 3 _ gx rfl))
      have q5732 : H5660 x 3 = (ce8 : Int) := k5731.trans ece8
      have h5733 : HDR T H5660 ce8  := (HDR_fr w5541 gce8 f5665 rfl (HDR_fr hW gce8 f5542 rfl hhdr8))
      have h5734 : RY T H5660 m (d8 0 3) g8 (H m 32) := (RY_fr w5541 gm f5665 rfl (RY_fr hW gm f5542 rfl h5534))
      exact WL.loc hX (by simp) (next T H5660 ⟨⟨w5664, g0, gx, gm, go, by omega, by omega⟩, ⟨_, tc, tm, cu, dr, _, _, _, _, _, ce8, q5714, gtc, h5722, q5716, gtm, h5723, q5718, gcu, q5720, gdr, h5724, h5725, h5726, h5727, h5728, hC1, hC2, h5729, a5678, (h5730).1, (h5734).1, hE, hZ, (by omega), (by assumption), (by omega), (by first | assumption | exact SG_0), q5732, gce8, h5721, h5733, a5679, gm⟩, by omega, by omega⟩ (by omega) (by omega))
set_option maxHeartbeats 4000000 in
theorem wl_c41 {kt : Nat → Option mc_E} {CB SB : Nat} {X : mc_S → Prop} {T : wq_T} {H : wq_H} {Len x m o : Nat} {i : Int} (hX : wlX kt CB SB X) (hb : T.2.1 ≤ CB ∧ T.2.2.1 ≤ SB) (hI : wlJ Len x m o T H) (hL : Len ≤ 3072) (hi : 0 ≤ i ∧ i + 6 ≤ Len) (hb2 : T.2.1 + 20 ≤ CB ∧ T.2.2.1 + 500 ≤ SB)  (next : ∀ T' H', wlJ Len x m o T' H' → T'.2.1 ≤ T.2.1 + 20 → T'.2.2.1 ≤ T.2.2.1 + 500 → WL kt CB SB X 1653 (wlL i x m o) [] T' H') : WL kt CB SB X 1429 (wlL i x m o) [] T H := by
  obtain ⟨⟨hW, g0, gx, gm, go, hK, hr⟩, hXI, hY1, hY2⟩ := hI
  refine wl_of hX hb cL_1429 (rw_aload_n (pc' := 1430) (v := .ref x) rfl rfl rfl ?_)
  refine wl_of hX hb cL_1430 (rw_aload_n (pc' := 1431) (v := .ref 0) rfl rfl rfl ?_)
  refine wl_of hX hb cL_1431 (rw_iload (pc' := 1433) (z := i) rfl rfl ?_)
  refine wl_of hX hb cL_1433 (rw_iconst (pc' := 1434) rfl ?_)
  refine wl_of hX hb cL_1434 (rw_iadd (pc' := 1435) rfl ?_)
  refine wl_of hX hb cL_1435 (xa_I (so := 0) (pc' := 1436) (a := 0) hW g0 (wsh_s _) (by omega) (wty_s _ _) (by omega) (by omega) rfl (fun b5735 b5736 => ?_))
  refine wl_of hX hb cL_1436 (xc_V (pc' := 1439) (r := x) (as := [vI (H 0 ((i + 1).toNat))]) (st := []) (lm_11_192) rfl rfl (Nat.le_of_ble_eq_true rfl) hW gx sh_1 (by decide) rfl (by decide) (s_155 hW gx ⟨by omega, by omega⟩) (fun R5737 T5738 H5739 p5740 => ?_))
  obtain ⟨e5741, w5743, f5744, z5745, e5742, b5746⟩ := p5740
  subst e5741
  subst e5742
  show WL _ _ _ _ 1439 [(4, vI i), (3, .ref o), (2, .ref m), (1, .ref x), (0, .ref 0)] [vI z5745] _ H5739
  refine wl_of hX hb cL_1439 (rw_pop (pc' := 1440) rfl rfl ?_)
  refine wl_of hX hb cL_1440 (rw_aload_n (pc' := 1441) (v := .ref m) rfl rfl rfl ?_)
  refine wl_of hX hb cL_1441 (rw_aload_n (pc' := 1442) (v := .ref 0) rfl rfl rfl ?_)
  refine wl_of hX hb cL_1442 (rw_iload (pc' := 1444) (z := i) rfl rfl ?_)
  refine wl_of hX hb cL_1444 (rw_iconst (pc' := 1445) rfl ?_)
  refine wl_of hX hb cL_1445 (rw_iadd (pc' := 1446) rfl ?_)
  have k5749 : H5739 0 ((i + 1).toNat) = H 0 ((i + 1).toNat) := (f5744 0 ((i + 1).toNat) _ g0 (wmem_s rfl))
  refine wl_of hX hb cL_1446 (xa_I (so := 0) (pc' := 1447) (a := 0) w5743 g0 (wsh_s _) (by omega) (wty_s _ _) (by omega) (by omega) rfl (fun b5747 b5748 => ?_))
  have k5750 : wKI H5739 m = wKI H m := (wKI_fr hW gm f5744 rfl)
  have k5751 : H5739 x 9 = H x 9 := (f5744 x 9 _ gx rfl)
  have k5752 : H5739 m 6 = H m 6 := (f5744 m 6 _ gm rfl)
  have k5753 : H5739 x 11 = H x 11 := (f5744 x 11 _ gx rfl)
  have k5754 : H5739 m 13 = H m 13 := (f5744 m 13 _ gm rfl)
  have k5755 : H5739 x 8 = H x 8 := (f5744 x 8 _ gx rfl)
  have k5756 : H5739 m 3 = H m 3 := (f5744 m 3 _ gm rfl)
  refine wl_of hX hb cL_1447 (xc_V (pc' := 1450) (r := m) (as := [vI (H5739 0 ((i + 1).toNat))]) (st := []) (lm_11_195) rfl rfl (Nat.le_of_ble_eq_true rfl) w5743 gm sh_42 (by decide) rfl (by decide) (s_287 w5743 gm ⟨by omega, by omega⟩ (by omega)) (fun R5757 T5758 H5759 p5760 => ?_))
  obtain ⟨e5761, w5763, f5764, z5766, e5762, b5767, p5765⟩ := p5760
  subst e5761
  subst e5762
  show WL _ _ _ _ 1450 [(4, vI i), (3, .ref o), (2, .ref m), (1, .ref x), (0, .ref 0)] [vI z5766] _ H5759
  refine wl_of hX hb cL_1450 (rw_pop (pc' := 1451) rfl rfl ?_)
  refine wl_of hX hb cL_1451 (rw_goto (p1 := 1653) (by decide) ?_)
  have k5768 : H5759 x 9 = H5739 x 9 := (f5764 x 9 _ gx rfl)
  have k5769 : H5759 m 6 = H5739 m 6 := (f5764 m 6 _ gm rfl)
  have k5770 : H5759 x 11 = H5739 x 11 := (f5764 x 11 _ gx rfl)
  have k5771 : H5759 m 13 = H5739 m 13 := (f5764 m 13 _ gm rfl)
  have k5772 : H5759 x 8 = H5739 x 8 := (f5764 x 8 _ gx rfl)
  have k5773 : H5759 m 3 = H5739 m 3 := (f5764 m 3 _ gm rfl)
  have h5774 : XI T H5759 x m := (XI_fr w5743 gx f5764 rfl (XI_fr hW gx f5744 rfl hXI))
  exact WL.loc hX (by simp) (next T H5759 ⟨⟨w5763, g0, gx, gm, go, by omega, by omega⟩, h5774, by omega, by omega⟩ (by omega) (by omega))
set_option maxHeartbeats 4000000 in
theorem wl_c42 {kt : Nat → Option mc_E} {CB SB : Nat} {X : mc_S → Prop} {T : wq_T} {H : wq_H} {Len x m o : Nat} {i : Int} (hX : wlX kt CB SB X) (hb : T.2.1 ≤ CB ∧ T.2.2.1 ≤ SB) (hI : wlJ Len x m o T H) (hL : Len ≤ 3072) (hi : 0 ≤ i ∧ i + 6 ≤ Len) (hb2 : T.2.1 + 20 ≤ CB ∧ T.2.2.1 + 500 ≤ SB)  (next : ∀ T' H', wlJ Len x m o T' H' → T'.2.1 ≤ T.2.1 + 20 → T'.2.2.1 ≤ T.2.2.1 + 500 → WL kt CB SB X 1653 (wlL i x m o) [] T' H') : WL kt CB SB X 1454 (wlL i x m o) [] T H := by
  obtain ⟨⟨hW, g0, gx, gm, go, hK, hr⟩, hXI, hY1, hY2⟩ := hI
  refine wl_of hX hb cL_1454 (rw_aload_n (pc' := 1455) (v := .ref x) rfl rfl rfl ?_)
  obtain ⟨B, tc, tm, cu, dr, C8, e8, d8, n8, g8, ce8, e0, gtc, htc, em, gtm, htm, ecu, gcu, edr, gdr, hcu, hdr, hdec, hded, hsp, hC1, hC2, hcu8, hrb8, hcg8, hmn8, hE, hZ, hn8, hXA, hV8, hSG, ece8, gce8, hcen8, hhdr8, hknn8, -⟩ := hXI
  have hN3 := RB_n3 hrb8
  have hE13 : ∀ h : Nat, h < 24 → 0 ≤ e8 13 h ∧ e8 13 h ≤ 100 := fun k hk => by
    obtain ⟨s, h1, h2, h3⟩ := hcu8.1.2.2.1
    exact ⟨(h3 k hk).1, (h3 k hk).2.1⟩
  have hXW := hXA.1
  have hXN := hXA.2
  have hE0 : e8 0 3 = d8 0 3 ∧ e8 0 0 = d8 0 0 := by
    have h := hE 0 (by decide)
    exact ⟨congrFun h 3, congrFun h 0⟩
  have u5775 := CU_k hcu8
  have h5776 : CY T H cu (d8 0 3) g8 (H cu 17) := ⟨hcg8, rfl⟩
  have h5777 : RY T H m (d8 0 3) g8 (H m 32) := ⟨hmn8, rfl⟩
  obtain ⟨t9, ht9⟩ : ∃ t : Int, t = H x 9 := ⟨_, rfl⟩
  obtain ⟨r5778, q5779, g5780⟩ := hW.ref gx (t' := 6) (n := 13) (j := 2) (p := 0) (q := 0) rfl (by decide) rfl
  refine wl_of hX hb cL_1455 (xc_V (pc' := 1458) (r := x) (as := []) (st := []) (lm_11_196) rfl rfl (Nat.le_of_ble_eq_true rfl) hW gx sh_1 (by decide) rfl (by decide) (u_156 (e := e8) (d := d8) (n := n8) hW gx ecu gcu q5779 g5780 ece8 gce8 (by assumption) (by assumption) (by omega) (by omega) (by omega) (by omega) hcu8 hcen8 hhdr8) (fun R5781 T5782 H5783 p5784 => ?_))
  obtain ⟨e5785, w5787, f5788, z5789, e5786, b5790, p5791⟩ := p5784
  subst e5785
  subst e5786
  show WL _ _ _ _ 1458 [(4, vI i), (3, .ref o), (2, .ref m), (1, .ref x), (0, .ref 0)] [vI z5789] _ H5783
  refine wl_of hX hb cL_1458 (rw_pop (pc' := 1459) rfl rfl ?_)
  refine wl_of hX hb cL_1459 (rw_aload_n (pc' := 1460) (v := .ref m) rfl rfl rfl ?_)
  have k5793 : wKI H5783 m = wKI H m := (wKI_fr hW gm f5788 rfl)
  have k5794 : H5783 x 9 = H x 9 := (f5788 x 9 _ gx rfl)
  have k5795 : H5783 m 6 = H m 6 := (f5788 m 6 _ gm rfl)
  have k5796 : H5783 x 11 = H x 11 := (f5788 x 11 _ gx rfl)
  have k5797 : H5783 m 13 = H m 13 := (f5788 m 13 _ gm rfl)
  have k5798 : H5783 x 8 = H x 8 := (f5788 x 8 _ gx rfl)
  have k5799 : H5783 m 3 = H m 3 := (f5788 m 3 _ gm rfl)
  have h5800 : RB T H5783 m e8 d8 := (RB_fr hW gm f5788 rfl hrb8)
  have h5801 : KNN T H5783 m e8 d8 := (KNN_fr hW gm f5788 rfl hknn8)
  refine wl_of hX hb cL_1460 (xc_V (pc' := 1463) (r := m) (as := []) (st := []) (lm_11_199) rfl rfl (Nat.le_of_ble_eq_true rfl) w5787 gm sh_42 (by decide) rfl (by decide) (u_288 (e := e8) (d := d8) w5787 gm (by omega) (by assumption) (by assumption) (by assumption) (by assumption) h5800 h5801) (fun R5802 T5803 H5804 p5805 => ?_))
  obtain ⟨e5806, w5808, f5809, z5810, e5807, b5811, p5812⟩ := p5805
  subst e5806
  subst e5807
  obtain ⟨a5813, a5814⟩ := p5812
  show WL _ _ _ _ 1463 [(4, vI i), (3, .ref o), (2, .ref m), (1, .ref x), (0, .ref 0)] [vI z5810] _ H5804
  refine wl_of hX hb cL_1463 (rw_pop (pc' := 1464) rfl rfl ?_)
  refine wl_of hX hb cL_1464 (rw_goto (p1 := 1653) (by decide) ?_)
  have k5815 : H5804 x 9 = H5783 x 9 := (f5809 x 9 _ gx rfl)
  have k5816 : H5804 m 6 = H5783 m 6 := (f5809 m 6 _ gm rfl)
  have k5817 : H5804 x 11 = H5783 x 11 := (f5809 x 11 _ gx rfl)
  have k5818 : H5804 m 13 = H5783 m 13 := (f5809 m 13 _ gm rfl)
  have k5819 : H5804 x 8 = H5783 x 8 := (f5809 x 8 _ gx rfl)
  have k5820 : H5804 m 3 = H5783 m 3 := (f5809 m 3 _ gm rfl)
  have k5821 : H5804 x 0 = H x 0 := ((f5809 x 0 _ gx rfl).trans (f5788 x 0 _ gx rfl))
  have q5822 : H5804 x 0 = (tc : Int) := k5821.trans e0
  have k5823 : H5804 m 5 = H m 5 := ((f5809 m 5 _ gm rfl).trans (f5788 m 5 _ gm rfl))
  have q5824 : H5804 m 5 = (tm : Int) := k5823.trans em
  have k5825 : H5804 x 6 = H x 6 := ((f5809 x 6 _ gx rfl).trans (f5788 x 6 _ gx rfl))
  have q5826 : H5804 x 6 = (cu : Int) := k5825.trans ecu
  have k5827 : H5804 x 7 = H x 7 := ((f5809 x 7 _ gx rfl).trans (f5788 x 7 _ gx rfl))
  have q5828 : H5804 x 7 = (dr : Int) := k5827.trans edr
  have h5829 : CEN T H5804 ce8 e8 d8 := (CEN_fr w5787 gce8 f5809 rfl p5791)
  have h5830 : TP T H5804 tc B := (TP_fr w5787 gtc f5809 rfl (TP_fr hW gtc f5788 rfl htc))
  have h5831 : TM T H5804 tm B := (TM_fr w5787 gtm f5809 rfl (TM_fr hW gtm f5788 rfl htm))
  have h5832 : DD T H5804 cu  := (DD_fr w5787 gcu f5809 rfl (DD_fr hW gcu f5788 rfl hcu))
  have h5833 : DD T H5804 dr  := (DD_fr w5787 gdr f5809 rfl (DD_fr hW gdr f5788 rfl hdr))
  have h5834 : DE T H5804 cu  := (DE_fr w5787 gcu f5809 rfl (DE_fr hW gcu f5788 rfl hdec))
  have h5835 : DE T H5804 dr  := (DE_fr w5787 gdr f5809 rfl (DE_fr hW gdr f5788 rfl hded))
  have h5836 : SP T H5804 x C8 := (SP_fr w5787 gx f5809 rfl (SP_fr hW gx f5788 rfl hsp))
  have h5837 : CU T H5804 cu e8 d8 n8 := (CU_fr w5787 gcu f5809 rfl (CU_fr hW gcu f5788 rfl hcu8))
  have h5838 : CG T H5804 cu (d8 0 3) g8 := (CG_fr w5787 gcu f5809 rfl (CG_fr hW gcu f5788 rfl hcg8))
  have k5839 : H5804 x 3 = H x 3 := ((f5809 x 3 _ gx rfl).trans (f5788 x 3 _ gx rfl))
  have q5840 : H5804 x 3 = (ce8 : Int) := k5839.trans ece8
  have h5841 : HDR T H5804 ce8  := (HDR_fr w5787 gce8 f5809 rfl (HDR_fr hW gce8 f5788 rfl hhdr8))
  have h5842 : MN26 T H5804 m (d8 0 3) g8 := (MN26_fr w5787 gm f5809 rfl (MN26_fr hW gm f5788 rfl hmn8))
  have h5843 : RB T H5804 m e8 d8 := (RB_fr w5787 gm f5809 rfl h5800)
  exact WL.loc hX (by simp) (next T H5804 ⟨⟨w5808, g0, gx, gm, go, by omega, by omega⟩, ⟨_, tc, tm, cu, dr, _, _, _, _, _, ce8, q5822, gtc, h5830, q5824, gtm, h5831, q5826, gcu, q5828, gdr, h5832, h5833, h5834, h5835, h5836, hC1, hC2, h5837, h5843, h5838, h5842, hE, hZ, (by omega), (by assumption), (by omega), (by first | assumption | exact SG_0), q5840, gce8, h5829, h5841, a5814, gm⟩, by omega, by omega⟩ (by omega) (by omega))
