/-! THE LAW, GONE ON WITH (own work) -/
set_option maxHeartbeats 4000000 in
theorem wl_c36 {kt : Nat → Option mc_E} {CB SB : Nat} {X : mc_S → Prop} {T : wq_T} {H : wq_H} {Len x m o : Nat} {i : Int} (hX : wlX kt CB SB X) (hb : T.2.1 ≤ CB ∧ T.2.2.1 ≤ SB) (hI : wlJ Len x m o T H) (hL : Len ≤ 3072) (hi : 0 ≤ i ∧ i + 6 ≤ Len) (hb2 : T.2.1 + 20 ≤ CB ∧ T.2.2.1 + 500 ≤ SB)  (next : ∀ T' H', wlJ Len x m o T' H' → T'.2.1 ≤ T.2.1 + 20 → T'.2.2.1 ≤ T.2.2.1 + 500 → WL kt CB SB X 1654 (wlL i x m o) [] T' H') : WL kt CB SB X 1317 (wlL i x m o) [] T H := by
  obtain ⟨⟨hW, g0, gx, gm, go, hK, hr⟩, hXI, hY1, hY2⟩ := hI
  refine wl_of hX hb cL_1317 (rw_aload_n (pc' := 1318) (v := .ref x) rfl rfl rfl ?_)
  obtain ⟨B, tc, tm, cu, dr, C8, e8, d8, n8, g8, ce8, e0, gtc, htc, em, gtm, htm, ecu, gcu, edr, gdr, hcu, hdr, hdec, hded, hsp, hC1, hC2, hcu8, hrb8, hcg8, hmn8, hE, hZ, hn8, hXA, hV8, hSG, ece8, gce8, hcen8, hhdr8, hknn8, -⟩ := hXI
  have hN3 := RB_n3 hrb8
  have hE13 : ∀ h : Nat, h < 24 → 0 ≤ e8 13 h ∧ e8 13 h ≤ 100 := fun k hk => by
    obtain ⟨s, h1, h2, h3⟩ := hcu8.1.2.2.1
    exact ⟨(h3 k hk).1, (h3 k hk).2.1⟩
  have hXW := hXA.1
  have hXN := hXA.2
  have hE0 : e8 0 3 = d8 0 3 ∧ e8 0 0 = d8 0 0 := by
    have h := hE 0 (by decide)
    exact ⟨congrFun h 3, congrFun h 0⟩
  have u5176 := CU_k hcu8
  have h5177 : CY T H cu (d8 0 3) g8 (H cu 17) := ⟨hcg8, rfl⟩
  have h5178 : RY T H m (d8 0 3) g8 (H m 32) := ⟨hmn8, rfl⟩
  obtain ⟨t9, ht9⟩ : ∃ t : Int, t = H x 9 := ⟨_, rfl⟩
  obtain ⟨r5179, q5180, g5181⟩ := hW.ref gx (t' := 6) (n := 13) (j := 2) (p := 0) (q := 0) rfl (by decide) rfl
  refine wl_of hX hb cL_1318 (xc_V (pc' := 1321) (r := x) (as := []) (st := []) (lm_11_171) rfl rfl (Nat.le_of_ble_eq_true rfl) hW gx sh_1 (by decide) rfl (by decide) (u_147 (e := e8) (d := d8) (n := n8) hW gx ecu gcu q5180 g5181 ece8 gce8 (by assumption) (by assumption) (by omega) (by omega) (by omega) (by omega) hcu8 hcen8 hhdr8) (fun R5182 T5183 H5184 p5185 => ?_))
  obtain ⟨e5186, w5188, f5189, z5190, e5187, b5191, p5192⟩ := p5185
  subst e5186
  subst e5187
  show WL _ _ _ _ 1321 [(4, vI i), (3, .ref o), (2, .ref m), (1, .ref x), (0, .ref 0)] [vI z5190] _ H5184
  refine wl_of hX hb cL_1321 (rw_pop (pc' := 1322) rfl rfl ?_)
  refine wl_of hX hb cL_1322 (rw_aload_n (pc' := 1323) (v := .ref m) rfl rfl rfl ?_)
  have k5194 : wKI H5184 m = wKI H m := (wKI_fr hW gm f5189 rfl)
  have k5195 : H5184 x 9 = H x 9 := (f5189 x 9 _ gx rfl)
  have k5196 : H5184 m 6 = H m 6 := (f5189 m 6 _ gm rfl)
  have k5197 : H5184 x 11 = H x 11 := (f5189 x 11 _ gx rfl)
  have k5198 : H5184 m 13 = H m 13 := (f5189 m 13 _ gm rfl)
  have k5199 : H5184 x 8 = H x 8 := (f5189 x 8 _ gx rfl)
  have k5200 : H5184 m 3 = H m 3 := (f5189 m 3 _ gm rfl)
  have h5201 : RB T H5184 m e8 d8 := (RB_fr hW gm f5189 rfl hrb8)
  have h5202 : KNN T H5184 m e8 d8 := (KNN_fr hW gm f5189 rfl hknn8)
  refine wl_of hX hb cL_1323 (xc_V (pc' := 1326) (r := m) (as := []) (st := []) (lm_11_174) rfl rfl (Nat.le_of_ble_eq_true rfl) w5188 gm sh_42 (by decide) rfl (by decide) (u_282 (e := e8) (d := d8) w5188 gm (by omega) (by assumption) (by assumption) (by assumption) (by assumption) h5201 h5202) (fun R5203 T5204 H5205 p5206 => ?_))
  obtain ⟨e5207, w5209, f5210, z5211, e5208, b5212, p5213⟩ := p5206
  subst e5207
  subst e5208
  obtain ⟨a5214, a5215⟩ := p5213
  show WL _ _ _ _ 1326 [(4, vI i), (3, .ref o), (2, .ref m), (1, .ref x), (0, .ref 0)] [vI z5211] _ H5205
  refine wl_of hX hb cL_1326 (rw_pop (pc' := 1327) rfl rfl ?_)
  refine wl_of hX hb cL_1327 (rw_goto (p1 := 1654) (by decide) ?_)
  have k5216 : H5205 x 9 = H5184 x 9 := (f5210 x 9 _ gx rfl)
  have k5217 : H5205 m 6 = H5184 m 6 := (f5210 m 6 _ gm rfl)
  have k5218 : H5205 x 11 = H5184 x 11 := (f5210 x 11 _ gx rfl)
  have k5219 : H5205 m 13 = H5184 m 13 := (f5210 m 13 _ gm rfl)
  have k5220 : H5205 x 8 = H5184 x 8 := (f5210 x 8 _ gx rfl)
  have k5221 : H5205 m 3 = H5184 m 3 := (f5210 m 3 _ gm rfl)
  have k5222 : H5205 x 0 = H x 0 := ((f5210 x 0 _ gx rfl).trans (f5189 x 0 _ gx rfl))
  have q5223 : H5205 x 0 = (tc : Int) := k5222.trans e0
  have k5224 : H5205 m 5 = H m 5 := ((f5210 m 5 _ gm rfl).trans (f5189 m 5 _ gm rfl))
  have q5225 : H5205 m 5 = (tm : Int) := k5224.trans em
  have k5226 : H5205 x 6 = H x 6 := ((f5210 x 6 _ gx rfl).trans (f5189 x 6 _ gx rfl))
  have q5227 : H5205 x 6 = (cu : Int) := k5226.trans ecu
  have k5228 : H5205 x 7 = H x 7 := ((f5210 x 7 _ gx rfl).trans (f5189 x 7 _ gx rfl))
  have q5229 : H5205 x 7 = (dr : Int) := k5228.trans edr
  have h5230 : CEN T H5205 ce8 e8 d8 := (CEN_fr w5188 gce8 f5210 rfl p5192)
  have h5231 : TP T H5205 tc B := (TP_fr w5188 gtc f5210 rfl (TP_fr hW gtc f5189 rfl htc))
  have h5232 : TM T H5205 tm B := (TM_fr w5188 gtm f5210 rfl (TM_fr hW gtm f5189 rfl htm))
  have h5233 : DD T H5205 cu  := (DD_fr w5188 gcu f5210 rfl (DD_fr hW gcu f5189 rfl hcu))
  have h5234 : DD T H5205 dr  := (DD_fr w5188 gdr f5210 rfl (DD_fr hW gdr f5189 rfl hdr))
  have h5235 : DE T H5205 cu  := (DE_fr w5188 gcu f5210 rfl (DE_fr hW gcu f5189 rfl hdec))
  have h5236 : DE T H5205 dr  := (DE_fr w5188 gdr f5210 rfl (DE_fr hW gdr f5189 rfl hded))
  have h5237 : SP T H5205 x C8 := (SP_fr w5188 gx f5210 rfl (SP_fr hW gx f5189 rfl hsp))
  have h5238 : CU T H5205 cu e8 d8 n8 := (CU_fr w5188 gcu f5210 rfl (CU_fr hW gcu f5189 rfl hcu8))
  have h5239 : CY T H5205 cu (d8 0 3) g8 (H cu 17) := (CY_fr w5188 gcu f5210 rfl (CY_fr hW gcu f5189 rfl h5177))
  have k5240 : H5205 x 3 = H x 3 := ((f5210 x 3 _ gx rfl).trans (f5189 x 3 _ gx rfl))
  have q5241 : H5205 x 3 = (ce8 : Int) := k5240.trans ece8
  have h5242 : HDR T H5205 ce8  := (HDR_fr w5188 gce8 f5210 rfl (HDR_fr hW gce8 f5189 rfl hhdr8))
  have h5243 : RY T H5205 m (d8 0 3) g8 (H m 32) := (RY_fr w5188 gm f5210 rfl (RY_fr hW gm f5189 rfl h5178))
  have h5244 : RB T H5205 m e8 d8 := (RB_fr w5188 gm f5210 rfl h5201)
  exact WL.loc hX (by simp) (next T H5205 ⟨⟨w5209, g0, gx, gm, go, by omega, by omega⟩, ⟨_, tc, tm, cu, dr, _, _, _, _, _, ce8, q5223, gtc, h5231, q5225, gtm, h5232, q5227, gcu, q5229, gdr, h5233, h5234, h5235, h5236, h5237, hC1, hC2, h5238, h5244, (h5239).1, (h5243).1, hE, hZ, (by omega), (by assumption), (by omega), (by first | assumption | exact SG_0), q5241, gce8, h5230, h5242, a5215, gm⟩, by omega, by omega⟩ (by omega) (by omega))
set_option maxHeartbeats 4000000 in
theorem wl_c37 {kt : Nat → Option mc_E} {CB SB : Nat} {X : mc_S → Prop} {T : wq_T} {H : wq_H} {Len x m o : Nat} {i : Int} (hX : wlX kt CB SB X) (hb : T.2.1 ≤ CB ∧ T.2.2.1 ≤ SB) (hI : wlJ Len x m o T H) (hL : Len ≤ 3072) (hi : 0 ≤ i ∧ i + 6 ≤ Len) (hb2 : T.2.1 + 20 ≤ CB ∧ T.2.2.1 + 500 ≤ SB)  (next : ∀ T' H', wlJ Len x m o T' H' → T'.2.1 ≤ T.2.1 + 20 → T'.2.2.1 ≤ T.2.2.1 + 500 → WL kt CB SB X 1654 (wlL i x m o) [] T' H') : WL kt CB SB X 1330 (wlL i x m o) [] T H := by
  obtain ⟨⟨hW, g0, gx, gm, go, hK, hr⟩, hXI, hY1, hY2⟩ := hI
  refine wl_of hX hb cL_1330 (rw_aload_n (pc' := 1331) (v := .ref x) rfl rfl rfl ?_)
  refine wl_of hX hb cL_1331 (xc_V (pc' := 1334) (r := x) (as := []) (st := []) (lm_11_175) rfl rfl (Nat.le_of_ble_eq_true rfl) hW gx sh_1 (by decide) rfl (by decide) (s_149 hW gx) (fun R5245 T5246 H5247 p5248 => ?_))
  obtain ⟨e5249, w5251, f5252, z5253, e5250, b5254⟩ := p5248
  subst e5249
  subst e5250
  show WL _ _ _ _ 1334 [(4, vI i), (3, .ref o), (2, .ref m), (1, .ref x), (0, .ref 0)] [vI z5253] _ H5247
  refine wl_of hX hb cL_1334 (rw_pop (pc' := 1335) rfl rfl ?_)
  refine wl_of hX hb cL_1335 (rw_aload_n (pc' := 1336) (v := .ref m) rfl rfl rfl ?_)
  have k5255 : wKI H5247 m = wKI H m := (wKI_fr hW gm f5252 rfl)
  have k5256 : H5247 x 9 = H x 9 := (f5252 x 9 _ gx rfl)
  have k5257 : H5247 m 6 = H m 6 := (f5252 m 6 _ gm rfl)
  have k5258 : H5247 x 11 = H x 11 := (f5252 x 11 _ gx rfl)
  have k5259 : H5247 m 13 = H m 13 := (f5252 m 13 _ gm rfl)
  have k5260 : H5247 x 8 = H x 8 := (f5252 x 8 _ gx rfl)
  have k5261 : H5247 m 3 = H m 3 := (f5252 m 3 _ gm rfl)
  refine wl_of hX hb cL_1336 (xc_V (pc' := 1339) (r := m) (as := []) (st := []) (lm_11_178) rfl rfl (Nat.le_of_ble_eq_true rfl) w5251 gm sh_42 (by decide) rfl (by decide) (s_283 w5251 gm (by omega)) (fun R5262 T5263 H5264 p5265 => ?_))
  obtain ⟨e5266, w5268, f5269, z5271, e5267, b5272, p5270⟩ := p5265
  subst e5266
  subst e5267
  show WL _ _ _ _ 1339 [(4, vI i), (3, .ref o), (2, .ref m), (1, .ref x), (0, .ref 0)] [vI z5271] _ H5264
  refine wl_of hX hb cL_1339 (rw_pop (pc' := 1340) rfl rfl ?_)
  refine wl_of hX hb cL_1340 (rw_goto (p1 := 1654) (by decide) ?_)
  have k5273 : H5264 x 9 = H5247 x 9 := (f5269 x 9 _ gx rfl)
  have k5274 : H5264 m 6 = H5247 m 6 := (f5269 m 6 _ gm rfl)
  have k5275 : H5264 x 11 = H5247 x 11 := (f5269 x 11 _ gx rfl)
  have k5276 : H5264 m 13 = H5247 m 13 := (f5269 m 13 _ gm rfl)
  have k5277 : H5264 x 8 = H5247 x 8 := (f5269 x 8 _ gx rfl)
  have k5278 : H5264 m 3 = H5247 m 3 := (f5269 m 3 _ gm rfl)
  have h5279 : XI T H5264 x m := (XI_fr w5251 gx f5269 rfl (XI_fr hW gx f5252 rfl hXI))
  exact WL.loc hX (by simp) (next T H5264 ⟨⟨w5268, g0, gx, gm, go, by omega, by omega⟩, h5279, by omega, by omega⟩ (by omega) (by omega))
set_option maxHeartbeats 4000000 in
theorem wl_c38 {kt : Nat → Option mc_E} {CB SB : Nat} {X : mc_S → Prop} {T : wq_T} {H : wq_H} {Len x m o : Nat} {i : Int} (hX : wlX kt CB SB X) (hb : T.2.1 ≤ CB ∧ T.2.2.1 ≤ SB) (hI : wlJ Len x m o T H) (hL : Len ≤ 3072) (hi : 0 ≤ i ∧ i + 6 ≤ Len) (hb2 : T.2.1 + 20 ≤ CB ∧ T.2.2.1 + 500 ≤ SB)  (next : ∀ T' H', wlJ Len x m o T' H' → T'.2.1 ≤ T.2.1 + 20 → T'.2.2.1 ≤ T.2.2.1 + 500 → WL kt CB SB X 1654 (wlL i x m o) [] T' H') : WL kt CB SB X 1343 (wlL i x m o) [] T H := by
  obtain ⟨⟨hW, g0, gx, gm, go, hK, hr⟩, hXI, hY1, hY2⟩ := hI
  refine wl_of hX hb cL_1343 (rw_aload_n (pc' := 1344) (v := .ref x) rfl rfl rfl ?_)
  refine wl_of hX hb cL_1344 (rw_aload_n (pc' := 1345) (v := .ref 0) rfl rfl rfl ?_)
  refine wl_of hX hb cL_1345 (rw_iload (pc' := 1347) (z := i) rfl rfl ?_)
  refine wl_of hX hb cL_1347 (rw_iconst (pc' := 1348) rfl ?_)
  refine wl_of hX hb cL_1348 (rw_iadd (pc' := 1349) rfl ?_)
  refine wl_of hX hb cL_1349 (xa_I (so := 0) (pc' := 1350) (a := 0) hW g0 (wsh_s _) (by omega) (wty_s _ _) (by omega) (by omega) rfl (fun b5280 b5281 => ?_))
  refine wl_of hX hb cL_1350 (xc_V (pc' := 1353) (r := x) (as := [vI (H 0 ((i + 1).toNat))]) (st := []) (lm_11_179) rfl rfl (Nat.le_of_ble_eq_true rfl) hW gx sh_1 (by decide) rfl (by decide) (s_152 hW gx ⟨by omega, by omega⟩) (fun R5282 T5283 H5284 p5285 => ?_))
  obtain ⟨e5286, w5288, f5289, z5290, e5287, b5291⟩ := p5285
  subst e5286
  subst e5287
  show WL _ _ _ _ 1353 [(4, vI i), (3, .ref o), (2, .ref m), (1, .ref x), (0, .ref 0)] [vI z5290] _ H5284
  refine wl_of hX hb cL_1353 (rw_pop (pc' := 1354) rfl rfl ?_)
  refine wl_of hX hb cL_1354 (rw_aload_n (pc' := 1355) (v := .ref m) rfl rfl rfl ?_)
  refine wl_of hX hb cL_1355 (rw_aload_n (pc' := 1356) (v := .ref 0) rfl rfl rfl ?_)
  refine wl_of hX hb cL_1356 (rw_iload (pc' := 1358) (z := i) rfl rfl ?_)
  refine wl_of hX hb cL_1358 (rw_iconst (pc' := 1359) rfl ?_)
  refine wl_of hX hb cL_1359 (rw_iadd (pc' := 1360) rfl ?_)
  have k5294 : H5284 0 ((i + 1).toNat) = H 0 ((i + 1).toNat) := (f5289 0 ((i + 1).toNat) _ g0 (wmem_s rfl))
  refine wl_of hX hb cL_1360 (xa_I (so := 0) (pc' := 1361) (a := 0) w5288 g0 (wsh_s _) (by omega) (wty_s _ _) (by omega) (by omega) rfl (fun b5292 b5293 => ?_))
  have k5295 : wKI H5284 m = wKI H m := (wKI_fr hW gm f5289 rfl)
  have k5296 : H5284 x 9 = H x 9 := (f5289 x 9 _ gx rfl)
  have k5297 : H5284 m 6 = H m 6 := (f5289 m 6 _ gm rfl)
  have k5298 : H5284 x 11 = H x 11 := (f5289 x 11 _ gx rfl)
  have k5299 : H5284 m 13 = H m 13 := (f5289 m 13 _ gm rfl)
  have k5300 : H5284 x 8 = H x 8 := (f5289 x 8 _ gx rfl)
  have k5301 : H5284 m 3 = H m 3 := (f5289 m 3 _ gm rfl)
  refine wl_of hX hb cL_1361 (xc_V (pc' := 1364) (r := m) (as := [vI (H5284 0 ((i + 1).toNat))]) (st := []) (lm_11_182) rfl rfl (Nat.le_of_ble_eq_true rfl) w5288 gm sh_42 (by decide) rfl (by decide) (s_284 w5288 gm ⟨by omega, by omega⟩ (by omega)) (fun R5302 T5303 H5304 p5305 => ?_))
  obtain ⟨e5306, w5308, f5309, z5311, e5307, b5312, p5310⟩ := p5305
  subst e5306
  subst e5307
  show WL _ _ _ _ 1364 [(4, vI i), (3, .ref o), (2, .ref m), (1, .ref x), (0, .ref 0)] [vI z5311] _ H5304
  refine wl_of hX hb cL_1364 (rw_pop (pc' := 1365) rfl rfl ?_)
  refine wl_of hX hb cL_1365 (rw_goto (p1 := 1654) (by decide) ?_)
  have k5313 : H5304 x 9 = H5284 x 9 := (f5309 x 9 _ gx rfl)
  have k5314 : H5304 m 6 = H5284 m 6 := (f5309 m 6 _ gm rfl)
  have k5315 : H5304 x 11 = H5284 x 11 := (f5309 x 11 _ gx rfl)
  have k5316 : H5304 m 13 = H5284 m 13 := (f5309 m 13 _ gm rfl)
  have k5317 : H5304 x 8 = H5284 x 8 := (f5309 x 8 _ gx rfl)
  have k5318 : H5304 m 3 = H5284 m 3 := (f5309 m 3 _ gm rfl)
  have h5319 : XI T H5304 x m := (XI_fr w5288 gx f5309 rfl (XI_fr hW gx f5289 rfl hXI))
  exact WL.loc hX (by simp) (next T H5304 ⟨⟨w5308, g0, gx, gm, go, by omega, by omega⟩, h5319, by omega, by omega⟩ (by omega) (by omega))
set_option maxHeartbeats 4000000 in
theorem wl_c39 {kt : Nat → Option mc_E} {CB SB : Nat} {X : mc_S → Prop} {T : wq_T} {H : wq_H} {Len x m o : Nat} {i : Int} (hX : wlX kt CB SB X) (hb : T.2.1 ≤ CB ∧ T.2.2.1 ≤ SB) (hI : wlJ Len x m o T H) (hL : Len ≤ 3072) (hi : 0 ≤ i ∧ i + 6 ≤ Len) (hb2 : T.2.1 + 20 ≤ CB ∧ T.2.2.1 + 500 ≤ SB)  (next : ∀ T' H', wlJ Len x m o T' H' → T'.2.1 ≤ T.2.1 + 20 → T'.2.2.1 ≤ T.2.2.1 + 500 → WL kt CB SB X 1654 (wlL i x m o) [] T' H') : WL kt CB SB X 1368 (wlL i x m o) [] T H := by
  obtain ⟨⟨hW, g0, gx, gm, go, hK, hr⟩, hXI, hY1, hY2⟩ := hI
  refine wl_of hX hb cL_1368 (rw_aload_n (pc' := 1369) (v := .ref x) rfl rfl rfl ?_)
  refine wl_of hX hb cL_1369 (rw_aload_n (pc' := 1370) (v := .ref 0) rfl rfl rfl ?_)
  refine wl_of hX hb cL_1370 (rw_iload (pc' := 1372) (z := i) rfl rfl ?_)
  refine wl_of hX hb cL_1372 (rw_iconst (pc' := 1373) rfl ?_)
  refine wl_of hX hb cL_1373 (rw_iadd (pc' := 1374) rfl ?_)
  refine wl_of hX hb cL_1374 (xa_I (so := 0) (pc' := 1375) (a := 0) hW g0 (wsh_s _) (by omega) (wty_s _ _) (by omega) (by omega) rfl (fun b5320 b5321 => ?_))
  refine wl_of hX hb cL_1375 (rw_aload_n (pc' := 1376) (v := .ref 0) rfl rfl rfl ?_)
  refine wl_of hX hb cL_1376 (rw_iload (pc' := 1378) (z := i) rfl rfl ?_)
  refine wl_of hX hb cL_1378 (rw_iconst (pc' := 1379) rfl ?_)
  refine wl_of hX hb cL_1379 (rw_iadd (pc' := 1380) rfl ?_)
  refine wl_of hX hb cL_1380 (xa_I (so := 0) (pc' := 1381) (a := 0) hW g0 (wsh_s _) (by omega) (wty_s _ _) (by omega) (by omega) rfl (fun b5322 b5323 => ?_))
  obtain ⟨B, tc, tm, cu, dr, C8, e8, d8, n8, g8, ce8, e0, gtc, htc, em, gtm, htm, ecu, gcu, edr, gdr, hcu, hdr, hdec, hded, hsp, hC1, hC2, hcu8, hrb8, hcg8, hmn8, hE, hZ, hn8, hXA, hV8, hSG, ece8, gce8, hcen8, hhdr8, hknn8, -⟩ := hXI
  have hN3 := RB_n3 hrb8
  have hE13 : ∀ h : Nat, h < 24 → 0 ≤ e8 13 h ∧ e8 13 h ≤ 100 := fun k hk => by
    obtain ⟨s, h1, h2, h3⟩ := hcu8.1.2.2.1
    exact ⟨(h3 k hk).1, (h3 k hk).2.1⟩
  have hXW := hXA.1
  have hXN := hXA.2
  have hE0 : e8 0 3 = d8 0 3 ∧ e8 0 0 = d8 0 0 := by
    have h := hE 0 (by decide)
    exact ⟨congrFun h 3, congrFun h 0⟩
  have u5324 := CU_k hcu8
  have h5325 : CY T H cu (d8 0 3) g8 (H cu 17) := ⟨hcg8, rfl⟩
  have h5326 : RY T H m (d8 0 3) g8 (H m 32) := ⟨hmn8, rfl⟩
  obtain ⟨t9, ht9⟩ : ∃ t : Int, t = H x 9 := ⟨_, rfl⟩
  obtain ⟨y9, hy9⟩ : ∃ y : Int, y = H 0 ((i + 2).toNat) := ⟨_, rfl⟩
  refine wl_of hX hb cL_1381 (xc_V (pc' := 1384) (r := x) (as := [vI (H 0 ((i + 1).toNat)), vI (H 0 ((i + 2).toNat))]) (st := []) (lm_11_183) rfl rfl (Nat.le_of_ble_eq_true rfl) hW gx sh_1 (by decide) rfl (by decide) (u_153 (e := e8) (d := d8) (n := n8) (y := ((H 0 ((i + 1).toNat)))) (w := (((H 0 ((i + 2).toNat)) + 1))) hW gx ⟨by omega, by omega⟩ ⟨by omega, by omega⟩ ecu gcu ece8 gce8 (by omega) (by omega) (by omega) (by omega) hcu8 hcen8) (fun R5327 T5328 H5329 p5330 => ?_))
  obtain ⟨e5331, w5333, f5334, z5335, e5332, b5336, p5337⟩ := p5330
  subst e5331
  subst e5332
  rcases p5337 with ⟨a5338, a5339, a5340, a5341⟩ | ⟨a5342, a5343, a5344, a5345, a5346⟩
  · show WL _ _ _ _ 1384 [(4, vI i), (3, .ref o), (2, .ref m), (1, .ref x), (0, .ref 0)] [vI z5335] _ H5329
    have u5347 := CU_k a5340
    refine wl_of hX hb cL_1384 (rw_pop (pc' := 1385) rfl rfl ?_)
    refine wl_of hX hb cL_1385 (rw_aload_n (pc' := 1386) (v := .ref m) rfl rfl rfl ?_)
    refine wl_of hX hb cL_1386 (rw_aload_n (pc' := 1387) (v := .ref 0) rfl rfl rfl ?_)
    refine wl_of hX hb cL_1387 (rw_iload (pc' := 1389) (z := i) rfl rfl ?_)
    refine wl_of hX hb cL_1389 (rw_iconst (pc' := 1390) rfl ?_)
    refine wl_of hX hb cL_1390 (rw_iadd (pc' := 1391) rfl ?_)
    have k5350 : H5329 0 ((i + 1).toNat) = H 0 ((i + 1).toNat) := (f5334 0 ((i + 1).toNat) _ g0 (wmem_s rfl))
    refine wl_of hX hb cL_1391 (xa_I (so := 0) (pc' := 1392) (a := 0) w5333 g0 (wsh_s _) (by omega) (wty_s _ _) (by omega) (by omega) rfl (fun b5348 b5349 => ?_))
    refine wl_of hX hb cL_1392 (rw_aload_n (pc' := 1393) (v := .ref 0) rfl rfl rfl ?_)
    refine wl_of hX hb cL_1393 (rw_iload (pc' := 1395) (z := i) rfl rfl ?_)
    refine wl_of hX hb cL_1395 (rw_iconst (pc' := 1396) rfl ?_)
    refine wl_of hX hb cL_1396 (rw_iadd (pc' := 1397) rfl ?_)
    have k5353 : H5329 0 ((i + 2).toNat) = H 0 ((i + 2).toNat) := (f5334 0 ((i + 2).toNat) _ g0 (wmem_s rfl))
    refine wl_of hX hb cL_1397 (xa_I (so := 0) (pc' := 1398) (a := 0) w5333 g0 (wsh_s _) (by omega) (wty_s _ _) (by omega) (by omega) rfl (fun b5351 b5352 => ?_))
    have k5354 : wKI H5329 m = wKI H m := (wKI_fr hW gm f5334 rfl)
    have k5355 : H5329 x 9 = H x 9 := (f5334 x 9 _ gx rfl)
    have k5356 : H5329 m 6 = H m 6 := (f5334 m 6 _ gm rfl)
    have k5357 : H5329 x 11 = H x 11 := (f5334 x 11 _ gx rfl)
    have k5358 : H5329 m 13 = H m 13 := (f5334 m 13 _ gm rfl)
    have k5359 : H5329 x 8 = H x 8 := (f5334 x 8 _ gx rfl)
    have k5360 : H5329 m 3 = H m 3 := (f5334 m 3 _ gm rfl)
    rw [show H5329 0 ((i + 2).toNat) = H 0 ((i + 2).toNat) by omega]
    rw [show H5329 0 ((i + 1).toNat) = H 0 ((i + 1).toNat) by omega]
    have h5361 : RB T H5329 m e8 d8 := (RB_fr hW gm f5334 rfl hrb8)
    have h5362 : KNN T H5329 m e8 d8 := (KNN_fr hW gm f5334 rfl hknn8)
    refine wl_of hX hb cL_1398 (xc_V (pc' := 1401) (r := m) (as := [vI (H 0 ((i + 1).toNat)), vI (H 0 ((i + 2).toNat))]) (st := []) (lm_11_186) rfl rfl (Nat.le_of_ble_eq_true rfl) w5333 gm sh_42 (by decide) rfl (by decide) (u_285 (e := e8) (d := d8) (y := ((H 0 ((i + 1).toNat)))) (w := (((H 0 ((i + 2).toNat)) + 1))) w5333 gm ⟨by omega, by omega⟩ ⟨by omega, by omega⟩ (by omega) (by omega) (by omega) h5361 h5362) (fun R5363 T5364 H5365 p5366 => ?_))
    obtain ⟨e5367, w5369, f5370, z5371, e5368, b5372, p5373⟩ := p5366
    subst e5367
    subst e5368
    rcases p5373 with ⟨a5374, a5375, a5376, a5377, a5378⟩ | ⟨a5379, a5380, a5381, a5382, a5383⟩
    · show WL _ _ _ _ 1401 [(4, vI i), (3, .ref o), (2, .ref m), (1, .ref x), (0, .ref 0)] [vI z5371] _ H5365
      refine wl_of hX hb cL_1401 (rw_pop (pc' := 1402) rfl rfl ?_)
      refine wl_of hX hb cL_1402 (rw_goto (p1 := 1654) (by decide) ?_)
      have k5384 : H5365 x 9 = H5329 x 9 := (f5370 x 9 _ gx rfl)
      have k5385 : H5365 m 6 = H5329 m 6 := (f5370 m 6 _ gm rfl)
      have k5386 : H5365 x 11 = H5329 x 11 := (f5370 x 11 _ gx rfl)
      have k5387 : H5365 m 13 = H5329 m 13 := (f5370 m 13 _ gm rfl)
      have k5388 : H5365 x 8 = H5329 x 8 := (f5370 x 8 _ gx rfl)
      have k5389 : H5365 m 3 = H5329 m 3 := (f5370 m 3 _ gm rfl)
      have k5390 : H5365 x 0 = H x 0 := ((f5370 x 0 _ gx rfl).trans (f5334 x 0 _ gx rfl))
      have q5391 : H5365 x 0 = (tc : Int) := k5390.trans e0
      have k5392 : H5365 m 5 = H m 5 := ((f5370 m 5 _ gm rfl).trans (f5334 m 5 _ gm rfl))
      have q5393 : H5365 m 5 = (tm : Int) := k5392.trans em
      have k5394 : H5365 x 6 = H x 6 := ((f5370 x 6 _ gx rfl).trans (f5334 x 6 _ gx rfl))
      have q5395 : H5365 x 6 = (cu : Int) := k5394.trans ecu
      have k5396 : H5365 x 7 = H x 7 := ((f5370 x 7 _ gx rfl).trans (f5334 x 7 _ gx rfl))
      have q5397 : H5365 x 7 = (dr : Int) := k5396.trans edr
      have h5398 : CEN T H5365 ce8 e8 d8 := (CEN_fr w5333 gce8 f5370 rfl a5341)
      have h5399 : TP T H5365 tc B := (TP_fr w5333 gtc f5370 rfl (TP_fr hW gtc f5334 rfl htc))
      have h5400 : TM T H5365 tm B := (TM_fr w5333 gtm f5370 rfl (TM_fr hW gtm f5334 rfl htm))
      have h5401 : DD T H5365 cu  := (DD_fr w5333 gcu f5370 rfl (DD_fr hW gcu f5334 rfl hcu))
      have h5402 : DD T H5365 dr  := (DD_fr w5333 gdr f5370 rfl (DD_fr hW gdr f5334 rfl hdr))
      have h5403 : DE T H5365 cu  := (DE_fr w5333 gcu f5370 rfl (DE_fr hW gcu f5334 rfl hdec))
      have h5404 : DE T H5365 dr  := (DE_fr w5333 gdr f5370 rfl (DE_fr hW gdr f5334 rfl hded))
      have h5405 : SP T H5365 x C8 := (SP_fr w5333 gx f5370 rfl (SP_fr hW gx f5334 rfl hsp))
      have h5406 : CU T H5365 cu e8 d8 n8 := (CU_fr w5333 gcu f5370 rfl a5340)
      have h5407 : CY T H5365 cu (d8 0 3) g8 (H cu 17) := (CY_fr w5333 gcu f5370 rfl (CY_fr hW gcu f5334 rfl h5325))
      have k5408 : H5365 x 3 = H x 3 := ((f5370 x 3 _ gx rfl).trans (f5334 x 3 _ gx rfl))
      have q5409 : H5365 x 3 = (ce8 : Int) := k5408.trans ece8
      have h5410 : HDR T H5365 ce8  := (HDR_fr w5333 gce8 f5370 rfl (HDR_fr hW gce8 f5334 rfl hhdr8))
      have h5411 : RY T H5365 m (d8 0 3) g8 (H m 32) := (RY_fr w5333 gm f5370 rfl (RY_fr hW gm f5334 rfl h5326))
      exact WL.loc hX (by simp) (next T H5365 ⟨⟨w5369, g0, gx, gm, go, by omega, by omega⟩, ⟨_, tc, tm, cu, dr, _, _, _, _, _, ce8, q5391, gtc, h5399, q5393, gtm, h5400, q5395, gcu, q5397, gdr, h5401, h5402, h5403, h5404, h5405, hC1, hC2, h5406, a5377, (h5407).1, (h5411).1, hE, hZ, (by omega), (by assumption), (by omega), (by first | assumption | exact SG_0), q5409, gce8, h5398, h5410, a5378, gm⟩, by omega, by omega⟩ (by omega) (by omega))
    · show WL _ _ _ _ 1401 [(4, vI i), (3, .ref o), (2, .ref m), (1, .ref x), (0, .ref 0)] [vI z5371] _ H5365
      refine wl_of hX hb cL_1401 (rw_pop (pc' := 1402) rfl rfl ?_)
      refine wl_of hX hb cL_1402 (rw_goto (p1 := 1654) (by decide) ?_)
      have k5412 : H5365 x 9 = H5329 x 9 := (f5370 x 9 _ gx rfl)
      have k5413 : H5365 m 6 = H5329 m 6 := (f5370 m 6 _ gm rfl)
      have k5414 : H5365 x 11 = H5329 x 11 := (f5370 x 11 _ gx rfl)
      have k5415 : H5365 m 13 = H5329 m 13 := (f5370 m 13 _ gm rfl)
      have k5416 : H5365 x 8 = H5329 x 8 := (f5370 x 8 _ gx rfl)
      have k5417 : H5365 m 3 = H5329 m 3 := (f5370 m 3 _ gm rfl)
      have k5418 : H5365 x 0 = H x 0 := ((f5370 x 0 _ gx rfl).trans (f5334 x 0 _ gx rfl))
      have q5419 : H5365 x 0 = (tc : Int) := k5418.trans e0
      have k5420 : H5365 m 5 = H m 5 := ((f5370 m 5 _ gm rfl).trans (f5334 m 5 _ gm rfl))
      have q5421 : H5365 m 5 = (tm : Int) := k5420.trans em
      have k5422 : H5365 x 6 = H x 6 := ((f5370 x 6 _ gx rfl).trans (f5334 x 6 _ gx rfl))
      have q5423 : H5365 x 6 = (cu : Int) := k5422.trans ecu
      have k5424 : H5365 x 7 = H x 7 := ((f5370 x 7 _ gx rfl).trans (f5334 x 7 _ gx rfl))
      have q5425 : H5365 x 7 = (dr : Int) := k5424.trans edr
      have h5426 : CEN T H5365 ce8 e8 d8 := (CEN_fr w5333 gce8 f5370 rfl a5341)
      have h5427 : TP T H5365 tc B := (TP_fr w5333 gtc f5370 rfl (TP_fr hW gtc f5334 rfl htc))
      have h5428 : TM T H5365 tm B := (TM_fr w5333 gtm f5370 rfl (TM_fr hW gtm f5334 rfl htm))
      have h5429 : DD T H5365 cu  := (DD_fr w5333 gcu f5370 rfl (DD_fr hW gcu f5334 rfl hcu))
      have h5430 : DD T H5365 dr  := (DD_fr w5333 gdr f5370 rfl (DD_fr hW gdr f5334 rfl hdr))
      have h5431 : DE T H5365 cu  := (DE_fr w5333 gcu f5370 rfl (DE_fr hW gcu f5334 rfl hdec))
      have h5432 : DE T H5365 dr  := (DE_fr w5333 gdr f5370 rfl (DE_fr hW gdr f5334 rfl hded))
      have h5433 : SP T H5365 x C8 := (SP_fr w5333 gx f5370 rfl (SP_fr hW gx f5334 rfl hsp))
      have h5434 : CU T H5365 cu e8 d8 n8 := (CU_fr w5333 gcu f5370 rfl a5340)
      have h5435 : CY T H5365 cu (d8 0 3) g8 (H cu 17) := (CY_fr w5333 gcu f5370 rfl (CY_fr hW gcu f5334 rfl h5325))
      have k5436 : H5365 x 3 = H x 3 := ((f5370 x 3 _ gx rfl).trans (f5334 x 3 _ gx rfl))
      have q5437 : H5365 x 3 = (ce8 : Int) := k5436.trans ece8
      have h5438 : HDR T H5365 ce8  := (HDR_fr w5333 gce8 f5370 rfl (HDR_fr hW gce8 f5334 rfl hhdr8))
      exfalso
      omega
  · show WL _ _ _ _ 1384 [(4, vI i), (3, .ref o), (2, .ref m), (1, .ref x), (0, .ref 0)] [vI z5335] _ H5329
    have u5439 := CU_k a5346
    refine wl_of hX hb cL_1384 (rw_pop (pc' := 1385) rfl rfl ?_)
    refine wl_of hX hb cL_1385 (rw_aload_n (pc' := 1386) (v := .ref m) rfl rfl rfl ?_)
    refine wl_of hX hb cL_1386 (rw_aload_n (pc' := 1387) (v := .ref 0) rfl rfl rfl ?_)
    refine wl_of hX hb cL_1387 (rw_iload (pc' := 1389) (z := i) rfl rfl ?_)
    refine wl_of hX hb cL_1389 (rw_iconst (pc' := 1390) rfl ?_)
    refine wl_of hX hb cL_1390 (rw_iadd (pc' := 1391) rfl ?_)
    have k5442 : H5329 0 ((i + 1).toNat) = H 0 ((i + 1).toNat) := (f5334 0 ((i + 1).toNat) _ g0 (wmem_s rfl))
    refine wl_of hX hb cL_1391 (xa_I (so := 0) (pc' := 1392) (a := 0) w5333 g0 (wsh_s _) (by omega) (wty_s _ _) (by omega) (by omega) rfl (fun b5440 b5441 => ?_))
    refine wl_of hX hb cL_1392 (rw_aload_n (pc' := 1393) (v := .ref 0) rfl rfl rfl ?_)
    refine wl_of hX hb cL_1393 (rw_iload (pc' := 1395) (z := i) rfl rfl ?_)
    refine wl_of hX hb cL_1395 (rw_iconst (pc' := 1396) rfl ?_)
    refine wl_of hX hb cL_1396 (rw_iadd (pc' := 1397) rfl ?_)
    have k5445 : H5329 0 ((i + 2).toNat) = H 0 ((i + 2).toNat) := (f5334 0 ((i + 2).toNat) _ g0 (wmem_s rfl))
    refine wl_of hX hb cL_1397 (xa_I (so := 0) (pc' := 1398) (a := 0) w5333 g0 (wsh_s _) (by omega) (wty_s _ _) (by omega) (by omega) rfl (fun b5443 b5444 => ?_))
    have k5446 : wKI H5329 m = wKI H m := (wKI_fr hW gm f5334 rfl)
    have k5447 : H5329 x 9 = H x 9 := (f5334 x 9 _ gx rfl)
    have k5448 : H5329 m 6 = H m 6 := (f5334 m 6 _ gm rfl)
    have k5449 : H5329 x 11 = H x 11 := (f5334 x 11 _ gx rfl)
    have k5450 : H5329 m 13 = H m 13 := (f5334 m 13 _ gm rfl)
    have k5451 : H5329 x 8 = H x 8 := (f5334 x 8 _ gx rfl)
    have k5452 : H5329 m 3 = H m 3 := (f5334 m 3 _ gm rfl)
    rw [show H5329 0 ((i + 2).toNat) = H 0 ((i + 2).toNat) by omega]
    rw [show H5329 0 ((i + 1).toNat) = H 0 ((i + 1).toNat) by omega]
    have h5453 : RB T H5329 m e8 d8 := (RB_fr hW gm f5334 rfl hrb8)
    have h5454 : KNN T H5329 m e8 d8 := (KNN_fr hW gm f5334 rfl hknn8)
    refine wl_of hX hb cL_1398 (xc_V (pc' := 1401) (r := m) (as := [vI (H 0 ((i + 1).toNat)), vI (H 0 ((i + 2).toNat))]) (st := []) (lm_11_186) rfl rfl (Nat.le_of_ble_eq_true rfl) w5333 gm sh_42 (by decide) rfl (by decide) (u_285 (e := e8) (d := d8) (y := ((H 0 ((i + 1).toNat)))) (w := (((H 0 ((i + 2).toNat)) + 1))) w5333 gm ⟨by omega, by omega⟩ ⟨by omega, by omega⟩ (by omega) (by omega) (by omega) h5453 h5454) (fun R5455 T5456 H5457 p5458 => ?_))
    obtain ⟨e5459, w5461, f5462, z5463, e5460, b5464, p5465⟩ := p5458
    subst e5459
    subst e5460
    rcases p5465 with ⟨a5466, a5467, a5468, a5469, a5470⟩ | ⟨a5471, a5472, a5473, a5474, a5475⟩
    · show WL _ _ _ _ 1401 [(4, vI i), (3, .ref o), (2, .ref m), (1, .ref x), (0, .ref 0)] [vI z5463] _ H5457
      refine wl_of hX hb cL_1401 (rw_pop (pc' := 1402) rfl rfl ?_)
      refine wl_of hX hb cL_1402 (rw_goto (p1 := 1654) (by decide) ?_)
      have k5476 : H5457 x 9 = H5329 x 9 := (f5462 x 9 _ gx rfl)
      have k5477 : H5457 m 6 = H5329 m 6 := (f5462 m 6 _ gm rfl)
      have k5478 : H5457 x 11 = H5329 x 11 := (f5462 x 11 _ gx rfl)
      have k5479 : H5457 m 13 = H5329 m 13 := (f5462 m 13 _ gm rfl)
      have k5480 : H5457 x 8 = H5329 x 8 := (f5462 x 8 _ gx rfl)
      have k5481 : H5457 m 3 = H5329 m 3 := (f5462 m 3 _ gm rfl)
      have k5482 : H5457 x 0 = H x 0 := ((f5462 x 0 _ gx rfl).trans (f5334 x 0 _ gx rfl))
      have q5483 : H5457 x 0 = (tc : Int) := k5482.trans e0
      have k5484 : H5457 m 5 = H m 5 := ((f5462 m 5 _ gm rfl).trans (f5334 m 5 _ gm rfl))
      have q5485 : H5457 m 5 = (tm : Int) := k5484.trans em
      have k5486 : H5457 x 6 = H x 6 := ((f5462 x 6 _ gx rfl).trans (f5334 x 6 _ gx rfl))
      have q5487 : H5457 x 6 = (cu : Int) := k5486.trans ecu
      have k5488 : H5457 x 7 = H x 7 := ((f5462 x 7 _ gx rfl).trans (f5334 x 7 _ gx rfl))
      have q5489 : H5457 x 7 = (dr : Int) := k5488.trans edr
      have k5490 : H5457 ce8 9 = H5329 ce8 9 := (f5462 ce8 9 _ gce8 rfl)
      have h5491 : TP T H5457 tc B := (TP_fr w5333 gtc f5462 rfl (TP_fr hW gtc f5334 rfl htc))
      have h5492 : TM T H5457 tm B := (TM_fr w5333 gtm f5462 rfl (TM_fr hW gtm f5334 rfl htm))
      have h5493 : DD T H5457 cu  := (DD_fr w5333 gcu f5462 rfl (DD_fr hW gcu f5334 rfl hcu))
      have h5494 : DD T H5457 dr  := (DD_fr w5333 gdr f5462 rfl (DD_fr hW gdr f5334 rfl hdr))
      have h5495 : DE T H5457 cu  := (DE_fr w5333 gcu f5462 rfl (DE_fr hW gcu f5334 rfl hdec))
      have h5496 : DE T H5457 dr  := (DE_fr w5333 gdr f5462 rfl (DE_fr hW gdr f5334 rfl hded))
      have h5497 : SP T H5457 x C8 := (SP_fr w5333 gx f5462 rfl (SP_fr hW gx f5334 rfl hsp))
      have h5498 : CU T H5457 cu (wq_u e8 13 (((H 0 ((i + 1).toNat)))).toNat (((H 0 ((i + 2).toNat)) + 1))) d8 n8 := (CU_fr w5333 gcu f5462 rfl a5346)
      have h5499 : CY T H5457 cu (d8 0 3) g8 (H cu 17) := (CY_fr w5333 gcu f5462 rfl (CY_fr hW gcu f5334 rfl h5325))
      have k5500 : H5457 x 3 = H x 3 := ((f5462 x 3 _ gx rfl).trans (f5334 x 3 _ gx rfl))
      have q5501 : H5457 x 3 = (ce8 : Int) := k5500.trans ece8
      have h5502 : HDR T H5457 ce8  := (HDR_fr w5333 gce8 f5462 rfl (HDR_fr hW gce8 f5334 rfl hhdr8))
      exfalso
      omega
    · show WL _ _ _ _ 1401 [(4, vI i), (3, .ref o), (2, .ref m), (1, .ref x), (0, .ref 0)] [vI z5463] _ H5457
      refine wl_of hX hb cL_1401 (rw_pop (pc' := 1402) rfl rfl ?_)
      refine wl_of hX hb cL_1402 (rw_goto (p1 := 1654) (by decide) ?_)
      have k5503 : H5457 x 9 = H5329 x 9 := (f5462 x 9 _ gx rfl)
      have k5504 : H5457 m 6 = H5329 m 6 := (f5462 m 6 _ gm rfl)
      have k5505 : H5457 x 11 = H5329 x 11 := (f5462 x 11 _ gx rfl)
      have k5506 : H5457 m 13 = H5329 m 13 := (f5462 m 13 _ gm rfl)
      have k5507 : H5457 x 8 = H5329 x 8 := (f5462 x 8 _ gx rfl)
      have k5508 : H5457 m 3 = H5329 m 3 := (f5462 m 3 _ gm rfl)
      have k5509 : H5457 x 0 = H x 0 := ((f5462 x 0 _ gx rfl).trans (f5334 x 0 _ gx rfl))
      have q5510 : H5457 x 0 = (tc : Int) := k5509.trans e0
      have k5511 : H5457 m 5 = H m 5 := ((f5462 m 5 _ gm rfl).trans (f5334 m 5 _ gm rfl))
      have q5512 : H5457 m 5 = (tm : Int) := k5511.trans em
      have k5513 : H5457 x 6 = H x 6 := ((f5462 x 6 _ gx rfl).trans (f5334 x 6 _ gx rfl))
      have q5514 : H5457 x 6 = (cu : Int) := k5513.trans ecu
      have k5515 : H5457 x 7 = H x 7 := ((f5462 x 7 _ gx rfl).trans (f5334 x 7 _ gx rfl))
      have q5516 : H5457 x 7 = (dr : Int) := k5515.trans edr
      have k5517 : H5457 ce8 9 = H5329 ce8 9 := (f5462 ce8 9 _ gce8 rfl)
      have h5518 : TP T H5457 tc B := (TP_fr w5333 gtc f5462 rfl (TP_fr hW gtc f5334 rfl htc))
      have h5519 : TM T H5457 tm B := (TM_fr w5333 gtm f5462 rfl (TM_fr hW gtm f5334 rfl htm))
      have h5520 : DD T H5457 cu  := (DD_fr w5333 gcu f5462 rfl (DD_fr hW gcu f5334 rfl hcu))
      have h5521 : DD T H5457 dr  := (DD_fr w5333 gdr f5462 rfl (DD_fr hW gdr f5334 rfl hdr))
      have h5522 : DE T H5457 cu  := (DE_fr w5333 gcu f5462 rfl (DE_fr hW gcu f5334 rfl hdec))
      have h5523 : DE T H5457 dr  := (DE_fr w5333 gdr f5462 rfl (DE_fr hW gdr f5334 rfl hded))
      have h5524 : SP T H5457 x C8 := (SP_fr w5333 gx f5462 rfl (SP_fr hW gx f5334 rfl hsp))
      have h5525 : CU T H5457 cu (wq_u e8 13 (((H 0 ((i + 1).toNat)))).toNat (((H 0 ((i + 2).toNat)) + 1))) d8 n8 := (CU_fr w5333 gcu f5462 rfl a5346)
      have h5526 : CY T H5457 cu (d8 0 3) g8 (H cu 17) := (CY_fr w5333 gcu f5462 rfl (CY_fr hW gcu f5334 rfl h5325))
      have k5527 : H5457 x 3 = H x 3 := ((f5462 x 3 _ gx rfl).trans (f5334 x 3 _ gx rfl))
      have q5528 : H5457 x 3 = (ce8 : Int) := k5527.trans ece8
      have h5529 : HDR T H5457 ce8  := (HDR_fr w5333 gce8 f5462 rfl (HDR_fr hW gce8 f5334 rfl hhdr8))
      have h5530 : RY T H5457 m (d8 0 3) g8 (H m 32) := (RY_fr w5333 gm f5462 rfl (RY_fr hW gm f5334 rfl h5326))
      exact WL.loc hX (by simp) (next T H5457 ⟨⟨w5461, g0, gx, gm, go, by omega, by omega⟩, ⟨_, tc, tm, cu, dr, _, _, _, _, _, ce8, q5510, gtc, h5518, q5512, gtm, h5519, q5514, gcu, q5516, gdr, h5520, h5521, h5522, h5523, h5524, hC1, hC2, h5525, a5475, (h5526).1, (h5530).1, (fun i hi => (wq_u_row hi).trans (hE i hi)), (fun h h1 h2 => by rw [wq_u_e2 (fun c => by omega)]; exact hZ h h1 h2), (by omega), (by assumption), (by omega), (by first | assumption | exact SG_0), q5528, gce8, (by first | assumption | exact CEN_new (by omega)), h5529, (by first | assumption | exact KNN_new (by omega)), gm⟩, by omega, by omega⟩ (by omega) (by omega))
set_option maxHeartbeats 4000000 in
theorem wl_c40 {kt : Nat → Option mc_E} {CB SB : Nat} {X : mc_S → Prop} {T : wq_T} {H : wq_H} {Len x m o : Nat} {i : Int} (hX : wlX kt CB SB X) (hb : T.2.1 ≤ CB ∧ T.2.2.1 ≤ SB) (hI : wlJ Len x m o T H) (hL : Len ≤ 3072) (hi : 0 ≤ i ∧ i + 6 ≤ Len) (hb2 : T.2.1 + 20 ≤ CB ∧ T.2.2.1 + 500 ≤ SB)  (next : ∀ T' H', wlJ Len x m o T' H' → T'.2.1 ≤ T.2.1 + 20 → T'.2.2.1 ≤ T.2.2.1 + 500 → WL kt CB SB X 1654 (wlL i x m o) [] T' H') : WL kt CB SB X 1405 (wlL i x m o) [] T H := by
  obtain ⟨⟨hW, g0, gx, gm, go, hK, hr⟩, hXI, hY1, hY2⟩ := hI
  refine wl_of hX hb cL_1405 (rw_aload_n (pc' := 1406) (v := .ref x) rfl rfl rfl ?_)
  refine wl_of hX hb cL_1406 (rw_aload_n (pc' := 1407) (v := .ref 0) rfl rfl rfl ?_)
  refine wl_of hX hb cL_1407 (rw_iload (pc' := 1409) (z := i) rfl rfl ?_)
  refine wl_of hX hb cL_1409 (rw_iconst (pc' := 1410) rfl ?_)
  refine wl_of hX hb cL_1410 (rw_iadd (pc' := 1411) rfl ?_)
  refine wl_of hX hb cL_1411 (xa_I (so := 0) (pc' := 1412) (a := 0) hW g0 (wsh_s _) (by omega) (wty_s _ _) (by omega) (by omega) rfl (fun b5531 b5532 => ?_))
  obtain ⟨B, tc, tm, cu, dr, C8, e8, d8, n8, g8, ce8, e0, gtc, htc, em, gtm, htm, ecu, gcu, edr, gdr, hcu, hdr, hdec, hded, hsp, hC1, hC2, hcu8, hrb8, hcg8, hmn8, hE, hZ, hn8, hXA, hV8, hSG, ece8, gce8, hcen8, hhdr8, hknn8, -⟩ := hXI
  have hN3 := RB_n3 hrb8
  have hE13 : ∀ h : Nat, h < 24 → 0 ≤ e8 13 h ∧ e8 13 h ≤ 100 := fun k hk => by
    obtain ⟨s, h1, h2, h3⟩ := hcu8.1.2.2.1
    exact ⟨(h3 k hk).1, (h3 k hk).2.1⟩
  have hXW := hXA.1
  have hXN := hXA.2
  have hE0 : e8 0 3 = d8 0 3 ∧ e8 0 0 = d8 0 0 := by
    have h := hE 0 (by decide)
    exact ⟨congrFun h 3, congrFun h 0⟩
  have u5533 := CU_k hcu8
  have h5534 : CY T H cu (d8 0 3) g8 (H cu 17) := ⟨hcg8, rfl⟩
  have h5535 : RY T H m (d8 0 3) g8 (H m 32) := ⟨hmn8, rfl⟩
  obtain ⟨t9, ht9⟩ : ∃ t : Int, t = H x 9 := ⟨_, rfl⟩
  obtain ⟨y9, hy9⟩ : ∃ y : Int, y = H 0 ((i + 1).toNat) := ⟨_, rfl⟩
  refine wl_of hX hb cL_1412 (xc_V (pc' := 1415) (r := x) (as := [vI (H 0 ((i + 1).toNat))]) (st := []) (lm_11_187) rfl rfl (Nat.le_of_ble_eq_true rfl) hW gx sh_1 (by decide) rfl (by decide) (u_154 (e := e8) (d := d8) (n := n8) (y := ((H 0 ((i + 1).toNat)))) hW gx ⟨by omega, by omega⟩ ecu gcu ece8 gce8 (by omega) (by omega) (by omega) hcu8 hcen8) (fun R5536 T5537 H5538 p5539 => ?_))
  obtain ⟨e5540, w5542, f5543, z5544, e5541, b5545, p5546⟩ := p5539
  subst e5540
  subst e5541
  rcases p5546 with ⟨a5547, a5548, a5549, a5550, a5551⟩ | ⟨a5552, a5553, a5554, a5555⟩
  · show WL _ _ _ _ 1415 [(4, vI i), (3, .ref o), (2, .ref m), (1, .ref x), (0, .ref 0)] [vI z5544] _ H5538
    have u5556 := CU_k a5551
    refine wl_of hX hb cL_1415 (rw_pop (pc' := 1416) rfl rfl ?_)
    refine wl_of hX hb cL_1416 (rw_aload_n (pc' := 1417) (v := .ref m) rfl rfl rfl ?_)
    refine wl_of hX hb cL_1417 (rw_aload_n (pc' := 1418) (v := .ref 0) rfl rfl rfl ?_)
    refine wl_of hX hb cL_1418 (rw_iload (pc' := 1420) (z := i) rfl rfl ?_)
    refine wl_of hX hb cL_1420 (rw_iconst (pc' := 1421) rfl ?_)
    refine wl_of hX hb cL_1421 (rw_iadd (pc' := 1422) rfl ?_)
    have k5559 : H5538 0 ((i + 1).toNat) = H 0 ((i + 1).toNat) := (f5543 0 ((i + 1).toNat) _ g0 (wmem_s rfl))
    refine wl_of hX hb cL_1422 (xa_I (so := 0) (pc' := 1423) (a := 0) w5542 g0 (wsh_s _) (by omega) (wty_s _ _) (by omega) (by omega) rfl (fun b5557 b5558 => ?_))
    have k5560 : wKI H5538 m = wKI H m := (wKI_fr hW gm f5543 rfl)
    have k5561 : H5538 x 9 = H x 9 := (f5543 x 9 _ gx rfl)
    have k5562 : H5538 m 6 = H m 6 := (f5543 m 6 _ gm rfl)
    have k5563 : H5538 x 11 = H x 11 := (f5543 x 11 _ gx rfl)
    have k5564 : H5538 m 13 = H m 13 := (f5543 m 13 _ gm rfl)
    have k5565 : H5538 x 8 = H x 8 := (f5543 x 8 _ gx rfl)
    have k5566 : H5538 m 3 = H m 3 := (f5543 m 3 _ gm rfl)
    rw [show H5538 0 ((i + 1).toNat) = H 0 ((i + 1).toNat) by omega]
    have h5567 : RB T H5538 m e8 d8 := (RB_fr hW gm f5543 rfl hrb8)
    have h5568 : KNN T H5538 m e8 d8 := (KNN_fr hW gm f5543 rfl hknn8)
    refine wl_of hX hb cL_1423 (xc_V (pc' := 1426) (r := m) (as := [vI (H 0 ((i + 1).toNat))]) (st := []) (lm_11_191) rfl rfl (Nat.le_of_ble_eq_true rfl) w5542 gm sh_42 (by decide) rfl (by decide) (u_286 (e := e8) (d := d8) (y := ((H 0 ((i + 1).toNat)))) w5542 gm ⟨by omega, by omega⟩ (by omega) (by omega) h5567 h5568) (fun R5569 T5570 H5571 p5572 => ?_))
    obtain ⟨e5573, w5575, f5576, z5577, e5574, b5578, p5579⟩ := p5572
    subst e5573
    subst e5574
    rcases p5579 with ⟨a5580, a5581, a5582, a5583, a5584, a5585⟩ | ⟨a5586, a5587, a5588, a5589, a5590⟩
    · show WL _ _ _ _ 1426 [(4, vI i), (3, .ref o), (2, .ref m), (1, .ref x), (0, .ref 0)] [vI z5577] _ H5571
      refine wl_of hX hb cL_1426 (rw_pop (pc' := 1427) rfl rfl ?_)
      refine wl_of hX hb cL_1427 (rw_goto (p1 := 1654) (by decide) ?_)
      have k5591 : H5571 x 9 = H5538 x 9 := (f5576 x 9 _ gx rfl)
      have k5592 : H5571 m 6 = H5538 m 6 := (f5576 m 6 _ gm rfl)
      have k5593 : H5571 x 11 = H5538 x 11 := (f5576 x 11 _ gx rfl)
      have k5594 : H5571 m 13 = H5538 m 13 := (f5576 m 13 _ gm rfl)
      have k5595 : H5571 x 8 = H5538 x 8 := (f5576 x 8 _ gx rfl)
      have k5596 : H5571 m 3 = H5538 m 3 := (f5576 m 3 _ gm rfl)
      have k5597 : H5571 x 0 = H x 0 := ((f5576 x 0 _ gx rfl).trans (f5543 x 0 _ gx rfl))
      have q5598 : H5571 x 0 = (tc : Int) := k5597.trans e0
      have k5599 : H5571 m 5 = H m 5 := ((f5576 m 5 _ gm rfl).trans (f5543 m 5 _ gm rfl))
      have q5600 : H5571 m 5 = (tm : Int) := k5599.trans em
      have k5601 : H5571 x 6 = H x 6 := ((f5576 x 6 _ gx rfl).trans (f5543 x 6 _ gx rfl))
      have q5602 : H5571 x 6 = (cu : Int) := k5601.trans ecu
      have k5603 : H5571 x 7 = H x 7 := ((f5576 x 7 _ gx rfl).trans (f5543 x 7 _ gx rfl))
      have q5604 : H5571 x 7 = (dr : Int) := k5603.trans edr
      have k5605 : H5571 ce8 9 = H5538 ce8 9 := (f5576 ce8 9 _ gce8 rfl)
      have h5606 : TP T H5571 tc B := (TP_fr w5542 gtc f5576 rfl (TP_fr hW gtc f5543 rfl htc))
      have h5607 : TM T H5571 tm B := (TM_fr w5542 gtm f5576 rfl (TM_fr hW gtm f5543 rfl htm))
      have h5608 : DD T H5571 cu  := (DD_fr w5542 gcu f5576 rfl (DD_fr hW gcu f5543 rfl hcu))
      have h5609 : DD T H5571 dr  := (DD_fr w5542 gdr f5576 rfl (DD_fr hW gdr f5543 rfl hdr))
      have h5610 : DE T H5571 cu  := (DE_fr w5542 gcu f5576 rfl (DE_fr hW gcu f5543 rfl hdec))
      have h5611 : DE T H5571 dr  := (DE_fr w5542 gdr f5576 rfl (DE_fr hW gdr f5543 rfl hded))
      have h5612 : SP T H5571 x C8 := (SP_fr w5542 gx f5576 rfl (SP_fr hW gx f5543 rfl hsp))
      have h5613 : CU T H5571 cu (wq_u e8 13 (((H 0 ((i + 1).toNat)))).toNat 0) d8 n8 := (CU_fr w5542 gcu f5576 rfl a5551)
      have h5614 : CY T H5571 cu (d8 0 3) g8 (H cu 17) := (CY_fr w5542 gcu f5576 rfl (CY_fr hW gcu f5543 rfl h5534))
      have k5615 : H5571 x 3 = H x 3 := ((f5576 x 3 _ gx rfl).trans (f5543 x 3 _ gx rfl))
      have q5616 : H5571 x 3 = (ce8 : Int) := k5615.trans ece8
      have h5617 : HDR T H5571 ce8  := (HDR_fr w5542 gce8 f5576 rfl (HDR_fr hW gce8 f5543 rfl hhdr8))
      have h5618 : RY T H5571 m (d8 0 3) g8 (H m 32) := (RY_fr w5542 gm f5576 rfl (RY_fr hW gm f5543 rfl h5535))
      exact WL.loc hX (by simp) (next T H5571 ⟨⟨w5575, g0, gx, gm, go, by omega, by omega⟩, ⟨_, tc, tm, cu, dr, _, _, _, _, _, ce8, q5598, gtc, h5606, q5600, gtm, h5607, q5602, gcu, q5604, gdr, h5608, h5609, h5610, h5611, h5612, hC1, hC2, h5613, a5585, (h5614).1, (h5618).1, (fun i hi => (wq_u_row hi).trans (hE i hi)), (fun h h1 h2 => by rw [wq_u_e2 (fun c => by omega)]; exact hZ h h1 h2), (by omega), (by assumption), (by omega), (by first | assumption | exact SG_0), q5616, gce8, (by first | assumption | exact CEN_new (by omega)), h5617, (by first | assumption | exact KNN_new (by omega)), gm⟩, by omega, by omega⟩ (by omega) (by omega))
    · show WL _ _ _ _ 1426 [(4, vI i), (3, .ref o), (2, .ref m), (1, .ref x), (0, .ref 0)] [vI z5577] _ H5571
      refine wl_of hX hb cL_1426 (rw_pop (pc' := 1427) rfl rfl ?_)
      refine wl_of hX hb cL_1427 (rw_goto (p1 := 1654) (by decide) ?_)
      have k5619 : H5571 x 9 = H5538 x 9 := (f5576 x 9 _ gx rfl)
      have k5620 : H5571 m 6 = H5538 m 6 := (f5576 m 6 _ gm rfl)
      have k5621 : H5571 x 11 = H5538 x 11 := (f5576 x 11 _ gx rfl)
      have k5622 : H5571 m 13 = H5538 m 13 := (f5576 m 13 _ gm rfl)
      have k5623 : H5571 x 8 = H5538 x 8 := (f5576 x 8 _ gx rfl)
      have k5624 : H5571 m 3 = H5538 m 3 := (f5576 m 3 _ gm rfl)
      have k5625 : H5571 x 0 = H x 0 := ((f5576 x 0 _ gx rfl).trans (f5543 x 0 _ gx rfl))
      have q5626 : H5571 x 0 = (tc : Int) := k5625.trans e0
      have k5627 : H5571 m 5 = H m 5 := ((f5576 m 5 _ gm rfl).trans (f5543 m 5 _ gm rfl))
      have q5628 : H5571 m 5 = (tm : Int) := k5627.trans em
      have k5629 : H5571 x 6 = H x 6 := ((f5576 x 6 _ gx rfl).trans (f5543 x 6 _ gx rfl))
      have q5630 : H5571 x 6 = (cu : Int) := k5629.trans ecu
      have k5631 : H5571 x 7 = H x 7 := ((f5576 x 7 _ gx rfl).trans (f5543 x 7 _ gx rfl))
      have q5632 : H5571 x 7 = (dr : Int) := k5631.trans edr
      have k5633 : H5571 ce8 9 = H5538 ce8 9 := (f5576 ce8 9 _ gce8 rfl)
      have h5634 : TP T H5571 tc B := (TP_fr w5542 gtc f5576 rfl (TP_fr hW gtc f5543 rfl htc))
      have h5635 : TM T H5571 tm B := (TM_fr w5542 gtm f5576 rfl (TM_fr hW gtm f5543 rfl htm))
      have h5636 : DD T H5571 cu  := (DD_fr w5542 gcu f5576 rfl (DD_fr hW gcu f5543 rfl hcu))
      have h5637 : DD T H5571 dr  := (DD_fr w5542 gdr f5576 rfl (DD_fr hW gdr f5543 rfl hdr))
      have h5638 : DE T H5571 cu  := (DE_fr w5542 gcu f5576 rfl (DE_fr hW gcu f5543 rfl hdec))
      have h5639 : DE T H5571 dr  := (DE_fr w5542 gdr f5576 rfl (DE_fr hW gdr f5543 rfl hded))
      have h5640 : SP T H5571 x C8 := (SP_fr w5542 gx f5576 rfl (SP_fr hW gx f5543 rfl hsp))
      have h5641 : CU T H5571 cu (wq_u e8 13 (((H 0 ((i + 1).toNat)))).toNat 0) d8 n8 := (CU_fr w5542 gcu f5576 rfl a5551)
      have h5642 : CY T H5571 cu (d8 0 3) g8 (H cu 17) := (CY_fr w5542 gcu f5576 rfl (CY_fr hW gcu f5543 rfl h5534))
      have k5643 : H5571 x 3 = H x 3 := ((f5576 x 3 _ gx rfl).trans (f5543 x 3 _ gx rfl))
      have q5644 : H5571 x 3 = (ce8 : Int) := k5643.trans ece8
      have h5645 : HDR T H5571 ce8  := (HDR_fr w5542 gce8 f5576 rfl (HDR_fr hW gce8 f5543 rfl hhdr8))
      exfalso
      omega
  · show WL _ _ _ _ 1415 [(4, vI i), (3, .ref o), (2, .ref m), (1, .ref x), (0, .ref 0)] [vI z5544] _ H5538
    have u5646 := CU_k a5554
    refine wl_of hX hb cL_1415 (rw_pop (pc' := 1416) rfl rfl ?_)
    refine wl_of hX hb cL_1416 (rw_aload_n (pc' := 1417) (v := .ref m) rfl rfl rfl ?_)
    refine wl_of hX hb cL_1417 (rw_aload_n (pc' := 1418) (v := .ref 0) rfl rfl rfl ?_)
    refine wl_of hX hb cL_1418 (rw_iload (pc' := 1420) (z := i) rfl rfl ?_)
    refine wl_of hX hb cL_1420 (rw_iconst (pc' := 1421) rfl ?_)
    refine wl_of hX hb cL_1421 (rw_iadd (pc' := 1422) rfl ?_)
    have k5649 : H5538 0 ((i + 1).toNat) = H 0 ((i + 1).toNat) := (f5543 0 ((i + 1).toNat) _ g0 (wmem_s rfl))
    refine wl_of hX hb cL_1422 (xa_I (so := 0) (pc' := 1423) (a := 0) w5542 g0 (wsh_s _) (by omega) (wty_s _ _) (by omega) (by omega) rfl (fun b5647 b5648 => ?_))
    have k5650 : wKI H5538 m = wKI H m := (wKI_fr hW gm f5543 rfl)
    have k5651 : H5538 x 9 = H x 9 := (f5543 x 9 _ gx rfl)
    have k5652 : H5538 m 6 = H m 6 := (f5543 m 6 _ gm rfl)
    have k5653 : H5538 x 11 = H x 11 := (f5543 x 11 _ gx rfl)
    have k5654 : H5538 m 13 = H m 13 := (f5543 m 13 _ gm rfl)
    have k5655 : H5538 x 8 = H x 8 := (f5543 x 8 _ gx rfl)
    have k5656 : H5538 m 3 = H m 3 := (f5543 m 3 _ gm rfl)
    rw [show H5538 0 ((i + 1).toNat) = H 0 ((i + 1).toNat) by omega]
    have h5657 : RB T H5538 m e8 d8 := (RB_fr hW gm f5543 rfl hrb8)
    have h5658 : KNN T H5538 m e8 d8 := (KNN_fr hW gm f5543 rfl hknn8)
    refine wl_of hX hb cL_1423 (xc_V (pc' := 1426) (r := m) (as := [vI (H 0 ((i + 1).toNat))]) (st := []) (lm_11_191) rfl rfl (Nat.le_of_ble_eq_true rfl) w5542 gm sh_42 (by decide) rfl (by decide) (u_286 (e := e8) (d := d8) (y := ((H 0 ((i + 1).toNat)))) w5542 gm ⟨by omega, by omega⟩ (by omega) (by omega) h5657 h5658) (fun R5659 T5660 H5661 p5662 => ?_))
    obtain ⟨e5663, w5665, f5666, z5667, e5664, b5668, p5669⟩ := p5662
    subst e5663
    subst e5664
    rcases p5669 with ⟨a5670, a5671, a5672, a5673, a5674, a5675⟩ | ⟨a5676, a5677, a5678, a5679, a5680⟩
    · show WL _ _ _ _ 1426 [(4, vI i), (3, .ref o), (2, .ref m), (1, .ref x), (0, .ref 0)] [vI z5667] _ H5661
      refine wl_of hX hb cL_1426 (rw_pop (pc' := 1427) rfl rfl ?_)
      refine wl_of hX hb cL_1427 (rw_goto (p1 := 1654) (by decide) ?_)
      have k5681 : H5661 x 9 = H5538 x 9 := (f5666 x 9 _ gx rfl)
      have k5682 : H5661 m 6 = H5538 m 6 := (f5666 m 6 _ gm rfl)
      have k5683 : H5661 x 11 = H5538 x 11 := (f5666 x 11 _ gx rfl)
      have k5684 : H5661 m 13 = H5538 m 13 := (f5666 m 13 _ gm rfl)
      have k5685 : H5661 x 8 = H5538 x 8 := (f5666 x 8 _ gx rfl)
      have k5686 : H5661 m 3 = H5538 m 3 := (f5666 m 3 _ gm rfl)
      have k5687 : H5661 x 0 = H x 0 := ((f5666 x 0 _ gx rfl).trans (f5543 x 0 _ gx rfl))
      have q5688 : H5661 x 0 = (tc : Int) := k5687.trans e0
      have k5689 : H5661 m 5 = H m 5 := ((f5666 m 5 _ gm rfl).trans (f5543 m 5 _ gm rfl))
      have q5690 : H5661 m 5 = (tm : Int) := k5689.trans em
      have k5691 : H5661 x 6 = H x 6 := ((f5666 x 6 _ gx rfl).trans (f5543 x 6 _ gx rfl))
      have q5692 : H5661 x 6 = (cu : Int) := k5691.trans ecu
      have k5693 : H5661 x 7 = H x 7 := ((f5666 x 7 _ gx rfl).trans (f5543 x 7 _ gx rfl))
      have q5694 : H5661 x 7 = (dr : Int) := k5693.trans edr
      have h5695 : CEN T H5661 ce8 e8 d8 := (CEN_fr w5542 gce8 f5666 rfl a5555)
      have h5696 : TP T H5661 tc B := (TP_fr w5542 gtc f5666 rfl (TP_fr hW gtc f5543 rfl htc))
      have h5697 : TM T H5661 tm B := (TM_fr w5542 gtm f5666 rfl (TM_fr hW gtm f5543 rfl htm))
      have h5698 : DD T H5661 cu  := (DD_fr w5542 gcu f5666 rfl (DD_fr hW gcu f5543 rfl hcu))
      have h5699 : DD T H5661 dr  := (DD_fr w5542 gdr f5666 rfl (DD_fr hW gdr f5543 rfl hdr))
      have h5700 : DE T H5661 cu  := (DE_fr w5542 gcu f5666 rfl (DE_fr hW gcu f5543 rfl hdec))
      have h5701 : DE T H5661 dr  := (DE_fr w5542 gdr f5666 rfl (DE_fr hW gdr f5543 rfl hded))
      have h5702 : SP T H5661 x C8 := (SP_fr w5542 gx f5666 rfl (SP_fr hW gx f5543 rfl hsp))
      have h5703 : CU T H5661 cu e8 d8 n8 := (CU_fr w5542 gcu f5666 rfl a5554)
      have h5704 : CY T H5661 cu (d8 0 3) g8 (H cu 17) := (CY_fr w5542 gcu f5666 rfl (CY_fr hW gcu f5543 rfl h5534))
      have k5705 : H5661 x 3 = H x 3 := ((f5666 x 3 _ gx rfl).trans (f5543 x 3 _ gx rfl))
      have q5706 : H5661 x 3 = (ce8 : Int) := k5705.trans ece8
      have h5707 : HDR T H5661 ce8  := (HDR_fr w5542 gce8 f5666 rfl (HDR_fr hW gce8 f5543 rfl hhdr8))
      exfalso
      omega
    · show WL _ _ _ _ 1426 [(4, vI i), (3, .ref o), (2, .ref m), (1, .ref x), (0, .ref 0)] [vI z5667] _ H5661
      refine wl_of hX hb cL_1426 (rw_pop (pc' := 1427) rfl rfl ?_)
      refine wl_of hX hb cL_1427 (rw_goto (p1 := 1654) (by decide) ?_)
      have k5708 : H5661 x 9 = H5538 x 9 := (f5666 x 9 _ gx rfl)
      have k5709 : H5661 m 6 = H5538 m 6 := (f5666 m 6 _ gm rfl)
      have k5710 : H5661 x 11 = H5538 x 11 := (f5666 x 11 _ gx rfl)
      have k5711 : H5661 m 13 = H5538 m 13 := (f5666 m 13 _ gm rfl)
      have k5712 : H5661 x 8 = H5538 x 8 := (f5666 x 8 _ gx rfl)
      have k5713 : H5661 m 3 = H5538 m 3 := (f5666 m 3 _ gm rfl)
      have k5714 : H5661 x 0 = H x 0 := ((f5666 x 0 _ gx rfl).trans (f5543 x 0 _ gx rfl))
      have q5715 : H5661 x 0 = (tc : Int) := k5714.trans e0
      have k5716 : H5661 m 5 = H m 5 := ((f5666 m 5 _ gm rfl).trans (f5543 m 5 _ gm rfl))
      have q5717 : H5661 m 5 = (tm : Int) := k5716.trans em
      have k5718 : H5661 x 6 = H x 6 := ((f5666 x 6 _ gx rfl).trans (f5543 x 6 _ gx rfl))
      have q5719 : H5661 x 6 = (cu : Int) := k5718.trans ecu
      have k5720 : H5661 x 7 = H x 7 := ((f5666 x 7 _ gx rfl).trans (f5543 x 7 _ gx rfl))
      have q5721 : H5661 x 7 = (dr : Int) := k5720.trans edr
      have h5722 : CEN T H5661 ce8 e8 d8 := (CEN_fr w5542 gce8 f5666 rfl a5555)
      have h5723 : TP T H5661 tc B := (TP_fr w5542 gtc f5666 rfl (TP_fr hW gtc f5543 rfl htc))
      have h5724 : TM T H5661 tm B := (TM_fr w5542 gtm f5666 rfl (TM_fr hW gtm f5543 rfl htm))
      have h5725 : DD T H5661 cu  := (DD_fr w5542 gcu f5666 rfl (DD_fr hW gcu f5543 rfl hcu))
      have h5726 : DD T H5661 dr  := (DD_fr w5542 gdr f5666 rfl (DD_fr hW gdr f5543 rfl hdr))
      have h5727 : DE T H5661 cu  := (DE_fr w5542 gcu f5666 rfl (DE_fr hW gcu f5543 rfl hdec))
      have h5728 : DE T H5661 dr  := (DE_fr w5542 gdr f5666 rfl (DE_fr hW gdr f5543 rfl hded))
      have h5729 : SP T H5661 x C8 := (SP_fr w5542 gx f5666 rfl (SP_fr hW gx f5543 rfl hsp))
      have h5730 : CU T H5661 cu e8 d8 n8 := (CU_fr w5542 gcu f5666 rfl a5554)
      have h5731 : CY T H5661 cu (d8 0 3) g8 (H cu 17) := (CY_fr w5542 gcu f5666 rfl (CY_fr hW gcu f5543 rfl h5534))
      have k5732 : H5661 x 3 = H x 3 := ((f5666 x 3 _ gx rfl).trans (f5543 x 3 _ gx rfl))
      have q5733 : H5661 x 3 = (ce8 : Int) := k5732.trans ece8
      have h5734 : HDR T H5661 ce8  := (HDR_fr w5542 gce8 f5666 rfl (HDR_fr hW gce8 f5543 rfl hhdr8))
      have h5735 : RY T H5661 m (d8 0 3) g8 (H m 32) := (RY_fr w5542 gm f5666 rfl (RY_fr hW gm f5543 rfl h5535))
      exact WL.loc hX (by simp) (next T H5661 ⟨⟨w5665, g0, gx, gm, go, by omega, by omega⟩, ⟨_, tc, tm, cu, dr, _, _, _, _, _, ce8, q5715, gtc, h5723, q5717, gtm, h5724, q5719, gcu, q5721, gdr, h5725, h5726, h5727, h5728, h5729, hC1, hC2, h5730, a5679, (h5731).1, (h5735).1, hE, hZ, (by omega), (by assumption), (by omega), (by first | assumption | exact SG_0), q5733, gce8, h5722, h5734, a5680, gm⟩, by omega, by omega⟩ (by omega) (by omega))
set_option maxHeartbeats 4000000 in
theorem wl_c41 {kt : Nat → Option mc_E} {CB SB : Nat} {X : mc_S → Prop} {T : wq_T} {H : wq_H} {Len x m o : Nat} {i : Int} (hX : wlX kt CB SB X) (hb : T.2.1 ≤ CB ∧ T.2.2.1 ≤ SB) (hI : wlJ Len x m o T H) (hL : Len ≤ 3072) (hi : 0 ≤ i ∧ i + 6 ≤ Len) (hb2 : T.2.1 + 20 ≤ CB ∧ T.2.2.1 + 500 ≤ SB)  (next : ∀ T' H', wlJ Len x m o T' H' → T'.2.1 ≤ T.2.1 + 20 → T'.2.2.1 ≤ T.2.2.1 + 500 → WL kt CB SB X 1654 (wlL i x m o) [] T' H') : WL kt CB SB X 1430 (wlL i x m o) [] T H := by
  obtain ⟨⟨hW, g0, gx, gm, go, hK, hr⟩, hXI, hY1, hY2⟩ := hI
  refine wl_of hX hb cL_1430 (rw_aload_n (pc' := 1431) (v := .ref x) rfl rfl rfl ?_)
  refine wl_of hX hb cL_1431 (rw_aload_n (pc' := 1432) (v := .ref 0) rfl rfl rfl ?_)
  refine wl_of hX hb cL_1432 (rw_iload (pc' := 1434) (z := i) rfl rfl ?_)
  refine wl_of hX hb cL_1434 (rw_iconst (pc' := 1435) rfl ?_)
  refine wl_of hX hb cL_1435 (rw_iadd (pc' := 1436) rfl ?_)
  refine wl_of hX hb cL_1436 (xa_I (so := 0) (pc' := 1437) (a := 0) hW g0 (wsh_s _) (by omega) (wty_s _ _) (by omega) (by omega) rfl (fun b5736 b5737 => ?_))
  refine wl_of hX hb cL_1437 (xc_V (pc' := 1440) (r := x) (as := [vI (H 0 ((i + 1).toNat))]) (st := []) (lm_11_192) rfl rfl (Nat.le_of_ble_eq_true rfl) hW gx sh_1 (by decide) rfl (by decide) (s_155 hW gx ⟨by omega, by omega⟩) (fun R5738 T5739 H5740 p5741 => ?_))
  obtain ⟨e5742, w5744, f5745, z5746, e5743, b5747⟩ := p5741
  subst e5742
  subst e5743
  show WL _ _ _ _ 1440 [(4, vI i), (3, .ref o), (2, .ref m), (1, .ref x), (0, .ref 0)] [vI z5746] _ H5740
  refine wl_of hX hb cL_1440 (rw_pop (pc' := 1441) rfl rfl ?_)
  refine wl_of hX hb cL_1441 (rw_aload_n (pc' := 1442) (v := .ref m) rfl rfl rfl ?_)
  refine wl_of hX hb cL_1442 (rw_aload_n (pc' := 1443) (v := .ref 0) rfl rfl rfl ?_)
  refine wl_of hX hb cL_1443 (rw_iload (pc' := 1445) (z := i) rfl rfl ?_)
  refine wl_of hX hb cL_1445 (rw_iconst (pc' := 1446) rfl ?_)
  refine wl_of hX hb cL_1446 (rw_iadd (pc' := 1447) rfl ?_)
  have k5750 : H5740 0 ((i + 1).toNat) = H 0 ((i + 1).toNat) := (f5745 0 ((i + 1).toNat) _ g0 (wmem_s rfl))
  refine wl_of hX hb cL_1447 (xa_I (so := 0) (pc' := 1448) (a := 0) w5744 g0 (wsh_s _) (by omega) (wty_s _ _) (by omega) (by omega) rfl (fun b5748 b5749 => ?_))
  have k5751 : wKI H5740 m = wKI H m := (wKI_fr hW gm f5745 rfl)
  have k5752 : H5740 x 9 = H x 9 := (f5745 x 9 _ gx rfl)
  have k5753 : H5740 m 6 = H m 6 := (f5745 m 6 _ gm rfl)
  have k5754 : H5740 x 11 = H x 11 := (f5745 x 11 _ gx rfl)
  have k5755 : H5740 m 13 = H m 13 := (f5745 m 13 _ gm rfl)
  have k5756 : H5740 x 8 = H x 8 := (f5745 x 8 _ gx rfl)
  have k5757 : H5740 m 3 = H m 3 := (f5745 m 3 _ gm rfl)
  refine wl_of hX hb cL_1448 (xc_V (pc' := 1451) (r := m) (as := [vI (H5740 0 ((i + 1).toNat))]) (st := []) (lm_11_195) rfl rfl (Nat.le_of_ble_eq_true rfl) w5744 gm sh_42 (by decide) rfl (by decide) (s_287 w5744 gm ⟨by omega, by omega⟩ (by omega)) (fun R5758 T5759 H5760 p5761 => ?_))
  obtain ⟨e5762, w5764, f5765, z5767, e5763, b5768, p5766⟩ := p5761
  subst e5762
  subst e5763
  show WL _ _ _ _ 1451 [(4, vI i), (3, .ref o), (2, .ref m), (1, .ref x), (0, .ref 0)] [vI z5767] _ H5760
  refine wl_of hX hb cL_1451 (rw_pop (pc' := 1452) rfl rfl ?_)
  refine wl_of hX hb cL_1452 (rw_goto (p1 := 1654) (by decide) ?_)
  have k5769 : H5760 x 9 = H5740 x 9 := (f5765 x 9 _ gx rfl)
  have k5770 : H5760 m 6 = H5740 m 6 := (f5765 m 6 _ gm rfl)
  have k5771 : H5760 x 11 = H5740 x 11 := (f5765 x 11 _ gx rfl)
  have k5772 : H5760 m 13 = H5740 m 13 := (f5765 m 13 _ gm rfl)
  have k5773 : H5760 x 8 = H5740 x 8 := (f5765 x 8 _ gx rfl)
  have k5774 : H5760 m 3 = H5740 m 3 := (f5765 m 3 _ gm rfl)
  have h5775 : XI T H5760 x m := (XI_fr w5744 gx f5765 rfl (XI_fr hW gx f5745 rfl hXI))
  exact WL.loc hX (by simp) (next T H5760 ⟨⟨w5764, g0, gx, gm, go, by omega, by omega⟩, h5775, by omega, by omega⟩ (by omega) (by omega))
set_option maxHeartbeats 4000000 in
theorem wl_c42 {kt : Nat → Option mc_E} {CB SB : Nat} {X : mc_S → Prop} {T : wq_T} {H : wq_H} {Len x m o : Nat} {i : Int} (hX : wlX kt CB SB X) (hb : T.2.1 ≤ CB ∧ T.2.2.1 ≤ SB) (hI : wlJ Len x m o T H) (hL : Len ≤ 3072) (hi : 0 ≤ i ∧ i + 6 ≤ Len) (hb2 : T.2.1 + 20 ≤ CB ∧ T.2.2.1 + 500 ≤ SB)  (next : ∀ T' H', wlJ Len x m o T' H' → T'.2.1 ≤ T.2.1 + 20 → T'.2.2.1 ≤ T.2.2.1 + 500 → WL kt CB SB X 1654 (wlL i x m o) [] T' H') : WL kt CB SB X 1455 (wlL i x m o) [] T H := by
  obtain ⟨⟨hW, g0, gx, gm, go, hK, hr⟩, hXI, hY1, hY2⟩ := hI
  refine wl_of hX hb cL_1455 (rw_aload_n (pc' := 1456) (v := .ref x) rfl rfl rfl ?_)
  obtain ⟨B, tc, tm, cu, dr, C8, e8, d8, n8, g8, ce8, e0, gtc, htc, em, gtm, htm, ecu, gcu, edr, gdr, hcu, hdr, hdec, hded, hsp, hC1, hC2, hcu8, hrb8, hcg8, hmn8, hE, hZ, hn8, hXA, hV8, hSG, ece8, gce8, hcen8, hhdr8, hknn8, -⟩ := hXI
  have hN3 := RB_n3 hrb8
  have hE13 : ∀ h : Nat, h < 24 → 0 ≤ e8 13 h ∧ e8 13 h ≤ 100 := fun k hk => by
    obtain ⟨s, h1, h2, h3⟩ := hcu8.1.2.2.1
    exact ⟨(h3 k hk).1, (h3 k hk).2.1⟩
  have hXW := hXA.1
  have hXN := hXA.2
  have hE0 : e8 0 3 = d8 0 3 ∧ e8 0 0 = d8 0 0 := by
    have h := hE 0 (by decide)
    exact ⟨congrFun h 3, congrFun h 0⟩
  have u5776 := CU_k hcu8
  have h5777 : CY T H cu (d8 0 3) g8 (H cu 17) := ⟨hcg8, rfl⟩
  have h5778 : RY T H m (d8 0 3) g8 (H m 32) := ⟨hmn8, rfl⟩
  obtain ⟨t9, ht9⟩ : ∃ t : Int, t = H x 9 := ⟨_, rfl⟩
  obtain ⟨r5779, q5780, g5781⟩ := hW.ref gx (t' := 6) (n := 13) (j := 2) (p := 0) (q := 0) rfl (by decide) rfl
  refine wl_of hX hb cL_1456 (xc_V (pc' := 1459) (r := x) (as := []) (st := []) (lm_11_196) rfl rfl (Nat.le_of_ble_eq_true rfl) hW gx sh_1 (by decide) rfl (by decide) (u_156 (e := e8) (d := d8) (n := n8) hW gx ecu gcu q5780 g5781 ece8 gce8 (by assumption) (by assumption) (by omega) (by omega) (by omega) (by omega) hcu8 hcen8 hhdr8) (fun R5782 T5783 H5784 p5785 => ?_))
  obtain ⟨e5786, w5788, f5789, z5790, e5787, b5791, p5792⟩ := p5785
  subst e5786
  subst e5787
  show WL _ _ _ _ 1459 [(4, vI i), (3, .ref o), (2, .ref m), (1, .ref x), (0, .ref 0)] [vI z5790] _ H5784
  refine wl_of hX hb cL_1459 (rw_pop (pc' := 1460) rfl rfl ?_)
  refine wl_of hX hb cL_1460 (rw_aload_n (pc' := 1461) (v := .ref m) rfl rfl rfl ?_)
  have k5794 : wKI H5784 m = wKI H m := (wKI_fr hW gm f5789 rfl)
  have k5795 : H5784 x 9 = H x 9 := (f5789 x 9 _ gx rfl)
  have k5796 : H5784 m 6 = H m 6 := (f5789 m 6 _ gm rfl)
  have k5797 : H5784 x 11 = H x 11 := (f5789 x 11 _ gx rfl)
  have k5798 : H5784 m 13 = H m 13 := (f5789 m 13 _ gm rfl)
  have k5799 : H5784 x 8 = H x 8 := (f5789 x 8 _ gx rfl)
  have k5800 : H5784 m 3 = H m 3 := (f5789 m 3 _ gm rfl)
  have h5801 : RB T H5784 m e8 d8 := (RB_fr hW gm f5789 rfl hrb8)
  have h5802 : KNN T H5784 m e8 d8 := (KNN_fr hW gm f5789 rfl hknn8)
  refine wl_of hX hb cL_1461 (xc_V (pc' := 1464) (r := m) (as := []) (st := []) (lm_11_199) rfl rfl (Nat.le_of_ble_eq_true rfl) w5788 gm sh_42 (by decide) rfl (by decide) (u_288 (e := e8) (d := d8) w5788 gm (by omega) (by assumption) (by assumption) (by assumption) (by assumption) h5801 h5802) (fun R5803 T5804 H5805 p5806 => ?_))
  obtain ⟨e5807, w5809, f5810, z5811, e5808, b5812, p5813⟩ := p5806
  subst e5807
  subst e5808
  obtain ⟨a5814, a5815⟩ := p5813
  show WL _ _ _ _ 1464 [(4, vI i), (3, .ref o), (2, .ref m), (1, .ref x), (0, .ref 0)] [vI z5811] _ H5805
  refine wl_of hX hb cL_1464 (rw_pop (pc' := 1465) rfl rfl ?_)
  refine wl_of hX hb cL_1465 (rw_goto (p1 := 1654) (by decide) ?_)
  have k5816 : H5805 x 9 = H5784 x 9 := (f5810 x 9 _ gx rfl)
  have k5817 : H5805 m 6 = H5784 m 6 := (f5810 m 6 _ gm rfl)
  have k5818 : H5805 x 11 = H5784 x 11 := (f5810 x 11 _ gx rfl)
  have k5819 : H5805 m 13 = H5784 m 13 := (f5810 m 13 _ gm rfl)
  have k5820 : H5805 x 8 = H5784 x 8 := (f5810 x 8 _ gx rfl)
  have k5821 : H5805 m 3 = H5784 m 3 := (f5810 m 3 _ gm rfl)
  have k5822 : H5805 x 0 = H x 0 := ((f5810 x 0 _ gx rfl).trans (f5789 x 0 _ gx rfl))
  have q5823 : H5805 x 0 = (tc : Int) := k5822.trans e0
  have k5824 : H5805 m 5 = H m 5 := ((f5810 m 5 _ gm rfl).trans (f5789 m 5 _ gm rfl))
  have q5825 : H5805 m 5 = (tm : Int) := k5824.trans em
  have k5826 : H5805 x 6 = H x 6 := ((f5810 x 6 _ gx rfl).trans (f5789 x 6 _ gx rfl))
  have q5827 : H5805 x 6 = (cu : Int) := k5826.trans ecu
  have k5828 : H5805 x 7 = H x 7 := ((f5810 x 7 _ gx rfl).trans (f5789 x 7 _ gx rfl))
  have q5829 : H5805 x 7 = (dr : Int) := k5828.trans edr
  have h5830 : CEN T H5805 ce8 e8 d8 := (CEN_fr w5788 gce8 f5810 rfl p5792)
  have h5831 : TP T H5805 tc B := (TP_fr w5788 gtc f5810 rfl (TP_fr hW gtc f5789 rfl htc))
  have h5832 : TM T H5805 tm B := (TM_fr w5788 gtm f5810 rfl (TM_fr hW gtm f5789 rfl htm))
  have h5833 : DD T H5805 cu  := (DD_fr w5788 gcu f5810 rfl (DD_fr hW gcu f5789 rfl hcu))
  have h5834 : DD T H5805 dr  := (DD_fr w5788 gdr f5810 rfl (DD_fr hW gdr f5789 rfl hdr))
  have h5835 : DE T H5805 cu  := (DE_fr w5788 gcu f5810 rfl (DE_fr hW gcu f5789 rfl hdec))
  have h5836 : DE T H5805 dr  := (DE_fr w5788 gdr f5810 rfl (DE_fr hW gdr f5789 rfl hded))
  have h5837 : SP T H5805 x C8 := (SP_fr w5788 gx f5810 rfl (SP_fr hW gx f5789 rfl hsp))
  have h5838 : CU T H5805 cu e8 d8 n8 := (CU_fr w5788 gcu f5810 rfl (CU_fr hW gcu f5789 rfl hcu8))
  have h5839 : CG T H5805 cu (d8 0 3) g8 := (CG_fr w5788 gcu f5810 rfl (CG_fr hW gcu f5789 rfl hcg8))
  have k5840 : H5805 x 3 = H x 3 := ((f5810 x 3 _ gx rfl).trans (f5789 x 3 _ gx rfl))
  have q5841 : H5805 x 3 = (ce8 : Int) := k5840.trans ece8
  have h5842 : HDR T H5805 ce8  := (HDR_fr w5788 gce8 f5810 rfl (HDR_fr hW gce8 f5789 rfl hhdr8))
  have h5843 : MN26 T H5805 m (d8 0 3) g8 := (MN26_fr w5788 gm f5810 rfl (MN26_fr hW gm f5789 rfl hmn8))
  have h5844 : RB T H5805 m e8 d8 := (RB_fr w5788 gm f5810 rfl h5801)
  exact WL.loc hX (by simp) (next T H5805 ⟨⟨w5809, g0, gx, gm, go, by omega, by omega⟩, ⟨_, tc, tm, cu, dr, _, _, _, _, _, ce8, q5823, gtc, h5831, q5825, gtm, h5832, q5827, gcu, q5829, gdr, h5833, h5834, h5835, h5836, h5837, hC1, hC2, h5838, h5844, h5839, h5843, hE, hZ, (by omega), (by assumption), (by omega), (by first | assumption | exact SG_0), q5841, gce8, h5830, h5842, a5815, gm⟩, by omega, by omega⟩ (by omega) (by omega))
