/-! THE LAW, GONE ON WITH (own work) -/
set_option maxHeartbeats 4000000 in
theorem wl_c36 {kt : Nat → Option mc_E} {CB SB : Nat} {X : mc_S → Prop} {T : wq_T} {H : wq_H} {Len x m o : Nat} {i : Int} (hX : wlX kt CB SB X) (hb : T.2.1 ≤ CB ∧ T.2.2.1 ≤ SB) (hI : wlJ Len x m o T H) (hL : Len ≤ 3072) (hi : 0 ≤ i ∧ i + 6 ≤ Len) (hb2 : T.2.1 + 20 ≤ CB ∧ T.2.2.1 + 500 ≤ SB)  (next : ∀ T' H', wlJ Len x m o T' H' → T'.2.1 ≤ T.2.1 + 20 → T'.2.2.1 ≤ T.2.2.1 + 500 → WL kt CB SB X 1654 (wlL i x m o) [] T' H') : WL kt CB SB X 1317 (wlL i x m o) [] T H := by
  obtain ⟨⟨hW, g0, gx, gm, go, hK, hr⟩, hXI, hY1, hY2⟩ := hI
  refine wl_of hX hb cL_1317 (rw_aload_n (pc' := 1318) (v := .ref x) rfl rfl rfl ?_)
  obtain ⟨B, tc, tm, cu, dr, C8, e8, d8, n8, g8, ce8, e0, gtc, htc, em, gtm, htm, ecu, gcu, edr, gdr, hcu, hdr, hdec, hded, hsp, hC1, hC2, hcu8, hrb8, hcg8, hmn8, hE, hZ, hn8, hXA, hV8, hSG, ece8, gce8, hcen8, hhdr8, hknn8, -⟩ := hXI
  have hN3 := RB_n3 hrb8
  have hE13 : ∀ h : Nat, h < 24 → 0 ≤ e8 13 h ∧ e8 13 h ≤ 100 := fun k hk => by
    obtain ⟨s, h1, h2, h3⟩ := hcu8.1.2.2.1
    exact ⟨(h3 k hk).1, (h3 k hk).2.1⟩
  have hXW := hXA.1
  have hXN := hXA.2
  have hE0 : e8 0 3 = d8 0 3 ∧ e8 0 0 = d8 0 0 := by
    have h := hE 0 (by decide)
    exact ⟨congrFun h 3, congrFun h 0⟩
  have u5173 := CU_k hcu8
  have h5174 : CY T H cu (d8 0 3) g8 (H cu 17) := ⟨hcg8, rfl⟩
  have h5175 : RY T H m (d8 0 3) g8 (H m 32) := ⟨hmn8, rfl⟩
  obtain ⟨t9, ht9⟩ : ∃ t : Int, t = H x 9 := ⟨_, rfl⟩
  obtain ⟨r5176, q5177, g5178⟩ := hW.ref gx (t' := 6) (n := 13) (j := 2) (p := 0) (q := 0) rfl (by decide) rfl
  refine wl_of hX hb cL_1318 (xc_V (pc' := 1321) (r := x) (as := []) (st := []) (lm_11_171) rfl rfl (Nat.le_of_ble_eq_true rfl) hW gx sh_1 (by decide) rfl (by decide) (u_147 (e := e8) (d := d8) (n := n8) hW gx ecu gcu q5177 g5178 ece8 gce8 (by assumption) (by assumption) (by omega) (by omega) (by omega) (by omega) hcu8 hcen8 hhdr8) (fun R5179 T5180 H5181 p5182 => ?_))
  obtain ⟨e5183, w5185, f5186, z5187, e5184, b5188, p5189⟩ := p5182
  subst e5183
  subst e5184
  show WL _ _ _ _ 1321 [(4, vI i), (3, .ref o), (2, .ref m), (1, .ref x), (0, .ref 0)] [vI z5187] _ H5181
  refine wl_of hX hb cL_1321 (rw_pop (pc' := 1322) rfl rfl ?_)
  refine wl_of hX hb cL_1322 (rw_aload_n (pc' := 1323) (v := .ref m) rfl rfl rfl ?_)
  have k5191 : wKI H5181 m = wKI H m := (wKI_fr hW gm f5186 rfl)
  have k5192 : H5181 x 9 = H x 9 := (f5186 x 9 _ gx rfl)
  have k5193 : H5181 m 6 = H m 6 := (f5186 m 6 _ gm rfl)
  have k5194 : H5181 x 11 = H x 11 := (f5186 x 11 _ gx rfl)
  have k5195 : H5181 m 13 = H m 13 := (f5186 m 13 _ gm rfl)
  have k5196 : H5181 x 8 = H x 8 := (f5186 x 8 _ gx rfl)
  have k5197 : H5181 m 3 = H m 3 := (f5186 m 3 _ gm rfl)
  have h5198 : RB T H5181 m e8 d8 := (RB_fr hW gm f5186 rfl hrb8)
  have h5199 : KNN T H5181 m e8 d8 := (KNN_fr hW gm f5186 rfl hknn8)
  refine wl_of hX hb cL_1323 (xc_V (pc' := 1326) (r := m) (as := []) (st := []) (lm_11_174) rfl rfl (Nat.le_of_ble_eq_true rfl) w5185 gm sh_42 (by decide) rfl (by decide) (u_282 (e := e8) (d := d8) w5185 gm (by omega) (by assumption) (by assumption) (by assumption) (by assumption) h5198 h5199) (fun R5200 T5201 H5202 p5203 => ?_))
  obtain ⟨e5204, w5206, f5207, z5208, e5205, b5209, p5210⟩ := p5203
  subst e5204
  subst e5205
  obtain ⟨a5211, a5212⟩ := p5210
  show WL _ _ _ _ 1326 [(4, vI i), (3, .ref o), (2, .ref m), (1, .ref x), (0, .ref 0)] [vI z5208] _ H5202
  refine wl_of hX hb cL_1326 (rw_pop (pc' := 1327) rfl rfl ?_)
  refine wl_of hX hb cL_1327 (rw_goto (p1 := 1654) (by decide) ?_)
  have k5213 : H5202 x 9 = H5181 x 9 := (f5207 x 9 _ gx rfl)
  have k5214 : H5202 m 6 = H5181 m 6 := (f5207 m 6 _ gm rfl)
  have k5215 : H5202 x 11 = H5181 x 11 := (f5207 x 11 _ gx rfl)
  have k5216 : H5202 m 13 = H5181 m 13 := (f5207 m 13 _ gm rfl)
  have k5217 : H5202 x 8 = H5181 x 8 := (f5207 x 8 _ gx rfl)
  have k5218 : H5202 m 3 = H5181 m 3 := (f5207 m 3 _ gm rfl)
  have k5219 : H5202 x 0 = H x 0 := ((f5207 x 0 _ gx rfl).trans (f5186 x 0 _ gx rfl))
  have q5220 : H5202 x 0 = (tc : Int) := k5219.trans e0
  have k5221 : H5202 m 5 = H m 5 := ((f5207 m 5 _ gm rfl).trans (f5186 m 5 _ gm rfl))
  have q5222 : H5202 m 5 = (tm : Int) := k5221.trans em
  have k5223 : H5202 x 6 = H x 6 := ((f5207 x 6 _ gx rfl).trans (f5186 x 6 _ gx rfl))
  have q5224 : H5202 x 6 = (cu : Int) := k5223.trans ecu
  have k5225 : H5202 x 7 = H x 7 := ((f5207 x 7 _ gx rfl).trans (f5186 x 7 _ gx rfl))
  have q5226 : H5202 x 7 = (dr : Int) := k5225.trans edr
  have h5227 : CEN T H5202 ce8 e8 d8 := (CEN_fr w5185 gce8 f5207 rfl p5189)
  have h5228 : TP T H5202 tc B := (TP_fr w5185 gtc f5207 rfl (TP_fr hW gtc f5186 rfl htc))
  have h5229 : TM T H5202 tm B := (TM_fr w5185 gtm f5207 rfl (TM_fr hW gtm f5186 rfl htm))
  have h5230 : DD T H5202 cu  := (DD_fr w5185 gcu f5207 rfl (DD_fr hW gcu f5186 rfl hcu))
  have h5231 : DD T H5202 dr  := (DD_fr w5185 gdr f5207 rfl (DD_fr hW gdr f5186 rfl hdr))
  have h5232 : DE T H5202 cu  := (DE_fr w5185 gcu f5207 rfl (DE_fr hW gcu f5186 rfl hdec))
  have h5233 : DE T H5202 dr  := (DE_fr w5185 gdr f5207 rfl (DE_fr hW gdr f5186 rfl hded))
  have h5234 : SP T H5202 x C8 := (SP_fr w5185 gx f5207 rfl (SP_fr hW gx f5186 rfl hsp))
  have h5235 : CU T H5202 cu e8 d8 n8 := (CU_fr w5185 gcu f5207 rfl (CU_fr hW gcu f5186 rfl hcu8))
  have h5236 : CY T H5202 cu (d8 0 3) g8 (H cu 17) := (CY_fr w5185 gcu f5207 rfl (CY_fr hW gcu f5186 rfl h5174))
  have k5237 : H5202 x 3 = H x 3 := ((f5207 x 3 _ gx rfl).trans (f5186 x 3 _ gx rfl))
  have q5238 : H5202 x 3 = (ce8 : Int) := k5237.trans ece8
  have h5239 : HDR T H5202 ce8  := (HDR_fr w5185 gce8 f5207 rfl (HDR_fr hW gce8 f5186 rfl hhdr8))
  have h5240 : RY T H5202 m (d8 0 3) g8 (H m 32) := (RY_fr w5185 gm f5207 rfl (RY_fr hW gm f5186 rfl h5175))
  have h5241 : RB T H5202 m e8 d8 := (RB_fr w5185 gm f5207 rfl h5198)
  exact WL.loc hX (by simp) (next T H5202 ⟨⟨w5206, g0, gx, gm, go, by omega, by omega⟩, ⟨_, tc, tm, cu, dr, _, _, _, _, _, ce8, q5220, gtc, h5228, q5222, gtm, h5229, q5224, gcu, q5226, gdr, h5230, h5231, h5232, h5233, h5234, hC1, hC2, h5235, h5241, (h5236).1, (h5240).1, hE, hZ, (by omega), (by assumption), (by omega), (by first | assumption | exact SG_0), q5238, gce8, h5227, h5239, a5212, gm⟩, by omega, by omega⟩ (by omega) (by omega))
set_option maxHeartbeats 4000000 in
theorem wl_c37 {kt : Nat → Option mc_E} {CB SB : Nat} {X : mc_S → Prop} {T : wq_T} {H : wq_H} {Len x m o : Nat} {i : Int} (hX : wlX kt CB SB X) (hb : T.2.1 ≤ CB ∧ T.2.2.1 ≤ SB) (hI : wlJ Len x m o T H) (hL : Len ≤ 3072) (hi : 0 ≤ i ∧ i + 6 ≤ Len) (hb2 : T.2.1 + 20 ≤ CB ∧ T.2.2.1 + 500 ≤ SB)  (next : ∀ T' H', wlJ Len x m o T' H' → T'.2.1 ≤ T.2.1 + 20 → T'.2.2.1 ≤ T.2.2.1 + 500 → WL kt CB SB X 1654 (wlL i x m o) [] T' H') : WL kt CB SB X 1330 (wlL i x m o) [] T H := by
  obtain ⟨⟨hW, g0, gx, gm, go, hK, hr⟩, hXI, hY1, hY2⟩ := hI
  refine wl_of hX hb cL_1330 (rw_aload_n (pc' := 1331) (v := .ref x) rfl rfl rfl ?_)
  refine wl_of hX hb cL_1331 (xc_V (pc' := 1334) (r := x) (as := []) (st := []) (lm_11_175) rfl rfl (Nat.le_of_ble_eq_true rfl) hW gx sh_1 (by decide) rfl (by decide) (s_149 hW gx) (fun R5242 T5243 H5244 p5245 => ?_))
  obtain ⟨e5246, w5248, f5249, z5250, e5247, b5251⟩ := p5245
  subst e5246
  subst e5247
  show WL _ _ _ _ 1334 [(4, vI i), (3, .ref o), (2, .ref m), (1, .ref x), (0, .ref 0)] [vI z5250] _ H5244
  refine wl_of hX hb cL_1334 (rw_pop (pc' := 1335) rfl rfl ?_)
  refine wl_of hX hb cL_1335 (rw_aload_n (pc' := 1336) (v := .ref m) rfl rfl rfl ?_)
  have k5252 : wKI H5244 m = wKI H m := (wKI_fr hW gm f5249 rfl)
  have k5253 : H5244 x 9 = H x 9 := (f5249 x 9 _ gx rfl)
  have k5254 : H5244 m 6 = H m 6 := (f5249 m 6 _ gm rfl)
  have k5255 : H5244 x 11 = H x 11 := (f5249 x 11 _ gx rfl)
  have k5256 : H5244 m 13 = H m 13 := (f5249 m 13 _ gm rfl)
  have k5257 : H5244 x 8 = H x 8 := (f5249 x 8 _ gx rfl)
  have k5258 : H5244 m 3 = H m 3 := (f5249 m 3 _ gm rfl)
  refine wl_of hX hb cL_1336 (xc_V (pc' := 1339) (r := m) (as := []) (st := []) (lm_11_178) rfl rfl (Nat.le_of_ble_eq_true rfl) w5248 gm sh_42 (by decide) rfl (by decide) (s_283 w5248 gm (by omega)) (fun R5259 T5260 H5261 p5262 => ?_))
  obtain ⟨e5263, w5265, f5266, z5268, e5264, b5269, p5267⟩ := p5262
  subst e5263
  subst e5264
  show WL _ _ _ _ 1339 [(4, vI i), (3, .ref o), (2, .ref m), (1, .ref x), (0, .ref 0)] [vI z5268] _ H5261
  refine wl_of hX hb cL_1339 (rw_pop (pc' := 1340) rfl rfl ?_)
  refine wl_of hX hb cL_1340 (rw_goto (p1 := 1654) (by decide) ?_)
  have k5270 : H5261 x 9 = H5244 x 9 := (f5266 x 9 _ gx rfl)
  have k5271 : H5261 m 6 = H5244 m 6 := (f5266 m 6 _ gm rfl)
  have k5272 : H5261 x 11 = H5244 x 11 := (f5266 x 11 _ gx rfl)
  have k5273 : H5261 m 13 = H5244 m 13 := (f5266 m 13 _ gm rfl)
  have k5274 : H5261 x 8 = H5244 x 8 := (f5266 x 8 _ gx rfl)
  have k5275 : H5261 m 3 = H5244 m 3 := (f5266 m 3 _ gm rfl)
  have h5276 : XI T H5261 x m := (XI_fr w5248 gx f5266 rfl (XI_fr hW gx f5249 rfl hXI))
  exact WL.loc hX (by simp) (next T H5261 ⟨⟨w5265, g0, gx, gm, go, by omega, by omega⟩, h5276, by omega, by omega⟩ (by omega) (by omega))
set_option maxHeartbeats 4000000 in
theorem wl_c38 {kt : Nat → Option mc_E} {CB SB : Nat} {X : mc_S → Prop} {T : wq_T} {H : wq_H} {Len x m o : Nat} {i : Int} (hX : wlX kt CB SB X) (hb : T.2.1 ≤ CB ∧ T.2.2.1 ≤ SB) (hI : wlJ Len x m o T H) (hL : Len ≤ 3072) (hi : 0 ≤ i ∧ i + 6 ≤ Len) (hb2 : T.2.1 + 20 ≤ CB ∧ T.2.2.1 + 500 ≤ SB)  (next : ∀ T' H', wlJ Len x m o T' H' → T'.2.1 ≤ T.2.1 + 20 → T'.2.2.1 ≤ T.2.2.1 + 500 → WL kt CB SB X 1654 (wlL i x m o) [] T' H') : WL kt CB SB X 1343 (wlL i x m o) [] T H := by
  obtain ⟨⟨hW, g0, gx, gm, go, hK, hr⟩, hXI, hY1, hY2⟩ := hI
  refine wl_of hX hb cL_1343 (rw_aload_n (pc' := 1344) (v := .ref x) rfl rfl rfl ?_)
  refine wl_of hX hb cL_1344 (rw_aload_n (pc' := 1345) (v := .ref 0) rfl rfl rfl ?_)
  refine wl_of hX hb cL_1345 (rw_iload (pc' := 1347) (z := i) rfl rfl ?_)
  refine wl_of hX hb cL_1347 (rw_iconst (pc' := 1348) rfl ?_)
  refine wl_of hX hb cL_1348 (rw_iadd (pc' := 1349) rfl ?_)
  refine wl_of hX hb cL_1349 (xa_I (so := 0) (pc' := 1350) (a := 0) hW g0 (wsh_s _) (by omega) (wty_s _ _) (by omega) (by omega) rfl (fun b5277 b5278 => ?_))
  refine wl_of hX hb cL_1350 (xc_V (pc' := 1353) (r := x) (as := [vI (H 0 ((i + 1).toNat))]) (st := []) (lm_11_179) rfl rfl (Nat.le_of_ble_eq_true rfl) hW gx sh_1 (by decide) rfl (by decide) (s_152 hW gx ⟨by omega, by omega⟩) (fun R5279 T5280 H5281 p5282 => ?_))
  obtain ⟨e5283, w5285, f5286, z5287, e5284, b5288⟩ := p5282
  subst e5283
  subst e5284
  show WL _ _ _ _ 1353 [(4, vI i), (3, .ref o), (2, .ref m), (1, .ref x), (0, .ref 0)] [vI z5287] _ H5281
  refine wl_of hX hb cL_1353 (rw_pop (pc' := 1354) rfl rfl ?_)
  refine wl_of hX hb cL_1354 (rw_aload_n (pc' := 1355) (v := .ref m) rfl rfl rfl ?_)
  refine wl_of hX hb cL_1355 (rw_aload_n (pc' := 1356) (v := .ref 0) rfl rfl rfl ?_)
  refine wl_of hX hb cL_1356 (rw_iload (pc' := 1358) (z := i) rfl rfl ?_)
  refine wl_of hX hb cL_1358 (rw_iconst (pc' := 1359) rfl ?_)
  refine wl_of hX hb cL_1359 (rw_iadd (pc' := 1360) rfl ?_)
  have k5291 : H5281 0 ((i + 1).toNat) = H 0 ((i + 1).toNat) := (f5286 0 ((i + 1).toNat) _ g0 (wmem_s rfl))
  refine wl_of hX hb cL_1360 (xa_I (so := 0) (pc' := 1361) (a := 0) w5285 g0 (wsh_s _) (by omega) (wty_s _ _) (by omega) (by omega) rfl (fun b5289 b5290 => ?_))
  have k5292 : wKI H5281 m = wKI H m := (wKI_fr hW gm f5286 rfl)
  have k5293 : H5281 x 9 = H x 9 := (f5286 x 9 _ gx rfl)
  have k5294 : H5281 m 6 = H m 6 := (f5286 m 6 _ gm rfl)
  have k5295 : H5281 x 11 = H x 11 := (f5286 x 11 _ gx rfl)
  have k5296 : H5281 m 13 = H m 13 := (f5286 m 13 _ gm rfl)
  have k5297 : H5281 x 8 = H x 8 := (f5286 x 8 _ gx rfl)
  have k5298 : H5281 m 3 = H m 3 := (f5286 m 3 _ gm rfl)
  refine wl_of hX hb cL_1361 (xc_V (pc' := 1364) (r := m) (as := [vI (H5281 0 ((i + 1).toNat))]) (st := []) (lm_11_182) rfl rfl (Nat.le_of_ble_eq_true rfl) w5285 gm sh_42 (by decide) rfl (by decide) (s_284 w5285 gm ⟨by omega, by omega⟩ (by omega)) (fun R5299 T5300 H5301 p5302 => ?_))
  obtain ⟨e5303, w5305, f5306, z5308, e5304, b5309, p5307⟩ := p5302
  subst e5303
  subst e5304
  show WL _ _ _ _ 1364 [(4, vI i), (3, .ref o), (2, .ref m), (1, .ref x), (0, .ref 0)] [vI z5308] _ H5301
  refine wl_of hX hb cL_1364 (rw_pop (pc' := 1365) rfl rfl ?_)
  refine wl_of hX hb cL_1365 (rw_goto (p1 := 1654) (by decide) ?_)
  have k5310 : H5301 x 9 = H5281 x 9 := (f5306 x 9 _ gx rfl)
  have k5311 : H5301 m 6 = H5281 m 6 := (f5306 m 6 _ gm rfl)
  have k5312 : H5301 x 11 = H5281 x 11 := (f5306 x 11 _ gx rfl)
  have k5313 : H5301 m 13 = H5281 m 13 := (f5306 m 13 _ gm rfl)
  have k5314 : H5301 x 8 = H5281 x 8 := (f5306 x 8 _ gx rfl)
  have k5315 : H5301 m 3 = H5281 m 3 := (f5306 m 3 _ gm rfl)
  have h5316 : XI T H5301 x m := (XI_fr w5285 gx f5306 rfl (XI_fr hW gx f5286 rfl hXI))
  exact WL.loc hX (by simp) (next T H5301 ⟨⟨w5305, g0, gx, gm, go, by omega, by omega⟩, h5316, by omega, by omega⟩ (by omega) (by omega))
set_option maxHeartbeats 4000000 in
theorem wl_c39 {kt : Nat → Option mc_E} {CB SB : Nat} {X : mc_S → Prop} {T : wq_T} {H : wq_H} {Len x m o : Nat} {i : Int} (hX : wlX kt CB SB X) (hb : T.2.1 ≤ CB ∧ T.2.2.1 ≤ SB) (hI : wlJ Len x m o T H) (hL : Len ≤ 3072) (hi : 0 ≤ i ∧ i + 6 ≤ Len) (hb2 : T.2.1 + 20 ≤ CB ∧ T.2.2.1 + 500 ≤ SB)  (next : ∀ T' H', wlJ Len x m o T' H' → T'.2.1 ≤ T.2.1 + 20 → T'.2.2.1 ≤ T.2.2.1 + 500 → WL kt CB SB X 1654 (wlL i x m o) [] T' H') : WL kt CB SB X 1368 (wlL i x m o) [] T H := by
  obtain ⟨⟨hW, g0, gx, gm, go, hK, hr⟩, hXI, hY1, hY2⟩ := hI
  refine wl_of hX hb cL_1368 (rw_aload_n (pc' := 1369) (v := .ref x) rfl rfl rfl ?_)
  refine wl_of hX hb cL_1369 (rw_aload_n (pc' := 1370) (v := .ref 0) rfl rfl rfl ?_)
  refine wl_of hX hb cL_1370 (rw_iload (pc' := 1372) (z := i) rfl rfl ?_)
  refine wl_of hX hb cL_1372 (rw_iconst (pc' := 1373) rfl ?_)
  refine wl_of hX hb cL_1373 (rw_iadd (pc' := 1374) rfl ?_)
  refine wl_of hX hb cL_1374 (xa_I (so := 0) (pc' := 1375) (a := 0) hW g0 (wsh_s _) (by omega) (wty_s _ _) (by omega) (by omega) rfl (fun b5317 b5318 => ?_))
  refine wl_of hX hb cL_1375 (rw_aload_n (pc' := 1376) (v := .ref 0) rfl rfl rfl ?_)
  refine wl_of hX hb cL_1376 (rw_iload (pc' := 1378) (z := i) rfl rfl ?_)
  refine wl_of hX hb cL_1378 (rw_iconst (pc' := 1379) rfl ?_)
  refine wl_of hX hb cL_1379 (rw_iadd (pc' := 1380) rfl ?_)
  refine wl_of hX hb cL_1380 (xa_I (so := 0) (pc' := 1381) (a := 0) hW g0 (wsh_s _) (by omega) (wty_s _ _) (by omega) (by omega) rfl (fun b5319 b5320 => ?_))
  obtain ⟨B, tc, tm, cu, dr, C8, e8, d8, n8, g8, ce8, e0, gtc, htc, em, gtm, htm, ecu, gcu, edr, gdr, hcu, hdr, hdec, hded, hsp, hC1, hC2, hcu8, hrb8, hcg8, hmn8, hE, hZ, hn8, hXA, hV8, hSG, ece8, gce8, hcen8, hhdr8, hknn8, -⟩ := hXI
  have hN3 := RB_n3 hrb8
  have hE13 : ∀ h : Nat, h < 24 → 0 ≤ e8 13 h ∧ e8 13 h ≤ 100 := fun k hk => by
    obtain ⟨s, h1, h2, h3⟩ := hcu8.1.2.2.1
    exact ⟨(h3 k hk).1, (h3 k hk).2.1⟩
  have hXW := hXA.1
  have hXN := hXA.2
  have hE0 : e8 0 3 = d8 0 3 ∧ e8 0 0 = d8 0 0 := by
    have h := hE 0 (by decide)
    exact ⟨congrFun h 3, congrFun h 0⟩
  have u5321 := CU_k hcu8
  have h5322 : CY T H cu (d8 0 3) g8 (H cu 17) := ⟨hcg8, rfl⟩
  have h5323 : RY T H m (d8 0 3) g8 (H m 32) := ⟨hmn8, rfl⟩
  obtain ⟨t9, ht9⟩ : ∃ t : Int, t = H x 9 := ⟨_, rfl⟩
  obtain ⟨y9, hy9⟩ : ∃ y : Int, y = H 0 ((i + 2).toNat) := ⟨_, rfl⟩
  refine wl_of hX hb cL_1381 (xc_V (pc' := 1384) (r := x) (as := [vI (H 0 ((i + 1).toNat)), vI (H 0 ((i + 2).toNat))]) (st := []) (lm_11_183) rfl rfl (Nat.le_of_ble_eq_true rfl) hW gx sh_1 (by decide) rfl (by decide) (u_153 (e := e8) (d := d8) (n := n8) (y := ((H 0 ((i + 1).toNat)))) (w := (((H 0 ((i + 2).toNat)) + 1))) hW gx ⟨by omega, by omega⟩ ⟨by omega, by omega⟩ ecu gcu ece8 gce8 (by omega) (by omega) (by omega) (by omega) hcu8 hcen8) (fun R5324 T5325 H5326 p5327 => ?_))
  obtain ⟨e5328, w5330, f5331, z5332, e5329, b5333, p5334⟩ := p5327
  subst e5328
  subst e5329
  rcases p5334 with ⟨a5335, a5336, a5337, a5338⟩ | ⟨a5339, a5340, a5341, a5342, a5343⟩
  · show WL _ _ _ _ 1384 [(4, vI i), (3, .ref o), (2, .ref m), (1, .ref x), (0, .ref 0)] [vI z5332] _ H5326
    have u5344 := CU_k a5337
    refine wl_of hX hb cL_1384 (rw_pop (pc' := 1385) rfl rfl ?_)
    refine wl_of hX hb cL_1385 (rw_aload_n (pc' := 1386) (v := .ref m) rfl rfl rfl ?_)
    refine wl_of hX hb cL_1386 (rw_aload_n (pc' := 1387) (v := .ref 0) rfl rfl rfl ?_)
    refine wl_of hX hb cL_1387 (rw_iload (pc' := 1389) (z := i) rfl rfl ?_)
    refine wl_of hX hb cL_1389 (rw_iconst (pc' := 1390) rfl ?_)
    refine wl_of hX hb cL_1390 (rw_iadd (pc' := 1391) rfl ?_)
    have k5347 : H5326 0 ((i + 1).toNat) = H 0 ((i + 1).toNat) := (f5331 0 ((i + 1).toNat) _ g0 (wmem_s rfl))
    refine wl_of hX hb cL_1391 (xa_I (so := 0) (pc' := 1392) (a := 0) w5330 g0 (wsh_s _) (by omega) (wty_s _ _) (by omega) (by omega) rfl (fun b5345 b5346 => ?_))
    refine wl_of hX hb cL_1392 (rw_aload_n (pc' := 1393) (v := .ref 0) rfl rfl rfl ?_)
    refine wl_of hX hb cL_1393 (rw_iload (pc' := 1395) (z := i) rfl rfl ?_)
    refine wl_of hX hb cL_1395 (rw_iconst (pc' := 1396) rfl ?_)
    refine wl_of hX hb cL_1396 (rw_iadd (pc' := 1397) rfl ?_)
    have k5350 : H5326 0 ((i + 2).toNat) = H 0 ((i + 2).toNat) := (f5331 0 ((i + 2).toNat) _ g0 (wmem_s rfl))
    refine wl_of hX hb cL_1397 (xa_I (so := 0) (pc' := 1398) (a := 0) w5330 g0 (wsh_s _) (by omega) (wty_s _ _) (by omega) (by omega) rfl (fun b5348 b5349 => ?_))
    have k5351 : wKI H5326 m = wKI H m := (wKI_fr hW gm f5331 rfl)
    have k5352 : H5326 x 9 = H x 9 := (f5331 x 9 _ gx rfl)
    have k5353 : H5326 m 6 = H m 6 := (f5331 m 6 _ gm rfl)
    have k5354 : H5326 x 11 = H x 11 := (f5331 x 11 _ gx rfl)
    have k5355 : H5326 m 13 = H m 13 := (f5331 m 13 _ gm rfl)
    have k5356 : H5326 x 8 = H x 8 := (f5331 x 8 _ gx rfl)
    have k5357 : H5326 m 3 = H m 3 := (f5331 m 3 _ gm rfl)
    rw [show H5326 0 ((i + 2).toNat) = H 0 ((i + 2).toNat) by omega]
    rw [show H5326 0 ((i + 1).toNat) = H 0 ((i + 1).toNat) by omega]
    have h5358 : RB T H5326 m e8 d8 := (RB_fr hW gm f5331 rfl hrb8)
    have h5359 : KNN T H5326 m e8 d8 := (KNN_fr hW gm f5331 rfl hknn8)
    refine wl_of hX hb cL_1398 (xc_V (pc' := 1401) (r := m) (as := [vI (H 0 ((i + 1).toNat)), vI (H 0 ((i + 2).toNat))]) (st := []) (lm_11_186) rfl rfl (Nat.le_of_ble_eq_true rfl) w5330 gm sh_42 (by decide) rfl (by decide) (u_285 (e := e8) (d := d8) (y := ((H 0 ((i + 1).toNat)))) (w := (((H 0 ((i + 2).toNat)) + 1))) w5330 gm ⟨by omega, by omega⟩ ⟨by omega, by omega⟩ (by omega) (by omega) (by omega) h5358 h5359) (fun R5360 T5361 H5362 p5363 => ?_))
    obtain ⟨e5364, w5366, f5367, z5368, e5365, b5369, p5370⟩ := p5363
    subst e5364
    subst e5365
    rcases p5370 with ⟨a5371, a5372, a5373, a5374, a5375⟩ | ⟨a5376, a5377, a5378, a5379, a5380⟩
    · show WL _ _ _ _ 1401 [(4, vI i), (3, .ref o), (2, .ref m), (1, .ref x), (0, .ref 0)] [vI z5368] _ H5362
      refine wl_of hX hb cL_1401 (rw_pop (pc' := 1402) rfl rfl ?_)
      refine wl_of hX hb cL_1402 (rw_goto (p1 := 1654) (by decide) ?_)
      have k5381 : H5362 x 9 = H5326 x 9 := (f5367 x 9 _ gx rfl)
      have k5382 : H5362 m 6 = H5326 m 6 := (f5367 m 6 _ gm rfl)
      have k5383 : H5362 x 11 = H5326 x 11 := (f5367 x 11 _ gx rfl)
      have k5384 : H5362 m 13 = H5326 m 13 := (f5367 m 13 _ gm rfl)
      have k5385 : H5362 x 8 = H5326 x 8 := (f5367 x 8 _ gx rfl)
      have k5386 : H5362 m 3 = H5326 m 3 := (f5367 m 3 _ gm rfl)
      have k5387 : H5362 x 0 = H x 0 := ((f5367 x 0 _ gx rfl).trans (f5331 x 0 _ gx rfl))
      have q5388 : H5362 x 0 = (tc : Int) := k5387.trans e0
      have k5389 : H5362 m 5 = H m 5 := ((f5367 m 5 _ gm rfl).trans (f5331 m 5 _ gm rfl))
      have q5390 : H5362 m 5 = (tm : Int) := k5389.trans em
      have k5391 : H5362 x 6 = H x 6 := ((f5367 x 6 _ gx rfl).trans (f5331 x 6 _ gx rfl))
      have q5392 : H5362 x 6 = (cu : Int) := k5391.trans ecu
      have k5393 : H5362 x 7 = H x 7 := ((f5367 x 7 _ gx rfl).trans (f5331 x 7 _ gx rfl))
      have q5394 : H5362 x 7 = (dr : Int) := k5393.trans edr
      have h5395 : CEN T H5362 ce8 e8 d8 := (CEN_fr w5330 gce8 f5367 rfl a5338)
      have h5396 : TP T H5362 tc B := (TP_fr w5330 gtc f5367 rfl (TP_fr hW gtc f5331 rfl htc))
      have h5397 : TM T H5362 tm B := (TM_fr w5330 gtm f5367 rfl (TM_fr hW gtm f5331 rfl htm))
      have h5398 : DD T H5362 cu  := (DD_fr w5330 gcu f5367 rfl (DD_fr hW gcu f5331 rfl hcu))
      have h5399 : DD T H5362 dr  := (DD_fr w5330 gdr f5367 rfl (DD_fr hW gdr f5331 rfl hdr))
      have h5400 : DE T H5362 cu  := (DE_fr w5330 gcu f5367 rfl (DE_fr hW gcu f5331 rfl hdec))
      have h5401 : DE T H5362 dr  := (DE_fr w5330 gdr f5367 rfl (DE_fr hW gdr f5331 rfl hded))
      have h5402 : SP T H5362 x C8 := (SP_fr w5330 gx f5367 rfl (SP_fr hW gx f5331 rfl hsp))
      have h5403 : CU T H5362 cu e8 d8 n8 := (CU_fr w5330 gcu f5367 rfl a5337)
      have h5404 : CY T H5362 cu (d8 0 3) g8 (H cu 17) := (CY_fr w5330 gcu f5367 rfl (CY_fr hW gcu f5331 rfl h5322))
      have k5405 : H5362 x 3 = H x 3 := ((f5367 x 3 _ gx rfl).trans (f5331 x 3 _ gx rfl))
      have q5406 : H5362 x 3 = (ce8 : Int) := k5405.trans ece8
      have h5407 : HDR T H5362 ce8  := (HDR_fr w5330 gce8 f5367 rfl (HDR_fr hW gce8 f5331 rfl hhdr8))
      have h5408 : RY T H5362 m (d8 0 3) g8 (H m 32) := (RY_fr w5330 gm f5367 rfl (RY_fr hW gm f5331 rfl h5323))
      exact WL.loc hX (by simp) (next T H5362 ⟨⟨w5366, g0, gx, gm, go, by omega, by omega⟩, ⟨_, tc, tm, cu, dr, _, _, _, _, _, ce8, q5388, gtc, h5396, q5390, gtm, h5397, q5392, gcu, q5394, gdr, h5398, h5399, h5400, h5401, h5402, hC1, hC2, h5403, a5374, (h5404).1, (h5408).1, hE, hZ, (by omega), (by assumption), (by omega), (by first | assumption | exact SG_0), q5406, gce8, h5395, h5407, a5375, gm⟩, by omega, by omega⟩ (by omega) (by omega))
    · show WL _ _ _ _ 1401 [(4, vI i), (3, .ref o), (2, .ref m), (1, .ref x), (0, .ref 0)] [vI z5368] _ H5362
      refine wl_of hX hb cL_1401 (rw_pop (pc' := 1402) rfl rfl ?_)
      refine wl_of hX hb cL_1402 (rw_goto (p1 := 1654) (by decide) ?_)
      have k5409 : H5362 x 9 = H5326 x 9 := (f5367 x 9 _ gx rfl)
      have k5410 : H5362 m 6 = H5326 m 6 := (f5367 m 6 _ gm rfl)
      have k5411 : H5362 x 11 = H5326 x 11 := (f5367 x 11 _ gx rfl)
      have k5412 : H5362 m 13 = H5326 m 13 := (f5367 m 13 _ gm rfl)
      have k5413 : H5362 x 8 = H5326 x 8 := (f5367 x 8 _ gx rfl)
      have k5414 : H5362 m 3 = H5326 m 3 := (f5367 m 3 _ gm rfl)
      have k5415 : H5362 x 0 = H x 0 := ((f5367 x 0 _ gx rfl).trans (f5331 x 0 _ gx rfl))
      have q5416 : H5362 x 0 = (tc : Int) := k5415.trans e0
      have k5417 : H5362 m 5 = H m 5 := ((f5367 m 5 _ gm rfl).trans (f5331 m 5 _ gm rfl))
      have q5418 : H5362 m 5 = (tm : Int) := k5417.trans em
      have k5419 : H5362 x 6 = H x 6 := ((f5367 x 6 _ gx rfl).trans (f5331 x 6 _ gx rfl))
      have q5420 : H5362 x 6 = (cu : Int) := k5419.trans ecu
      have k5421 : H5362 x 7 = H x 7 := ((f5367 x 7 _ gx rfl).trans (f5331 x 7 _ gx rfl))
      have q5422 : H5362 x 7 = (dr : Int) := k5421.trans edr
      have h5423 : CEN T H5362 ce8 e8 d8 := (CEN_fr w5330 gce8 f5367 rfl a5338)
      have h5424 : TP T H5362 tc B := (TP_fr w5330 gtc f5367 rfl (TP_fr hW gtc f5331 rfl htc))
      have h5425 : TM T H5362 tm B := (TM_fr w5330 gtm f5367 rfl (TM_fr hW gtm f5331 rfl htm))
      have h5426 : DD T H5362 cu  := (DD_fr w5330 gcu f5367 rfl (DD_fr hW gcu f5331 rfl hcu))
      have h5427 : DD T H5362 dr  := (DD_fr w5330 gdr f5367 rfl (DD_fr hW gdr f5331 rfl hdr))
      have h5428 : DE T H5362 cu  := (DE_fr w5330 gcu f5367 rfl (DE_fr hW gcu f5331 rfl hdec))
      have h5429 : DE T H5362 dr  := (DE_fr w5330 gdr f5367 rfl (DE_fr hW gdr f5331 rfl hded))
      have h5430 : SP T H5362 x C8 := (SP_fr w5330 gx f5367 rfl (SP_fr hW gx f5331 rfl hsp))
      have h5431 : CU T H5362 cu e8 d8 n8 := (CU_fr w5330 gcu f5367 rfl a5337)
      have h5432 : CY T H5362 cu (d8 0 3) g8 (H cu 17) := (CY_fr w5330 gcu f5367 rfl (CY_fr hW gcu f5331 rfl h5322))
      have k5433 : H5362 x 3 = H x 3 := ((f5367 x 3 _ gx rfl).trans (f5331 x 3 _ gx rfl))
      have q5434 : H5362 x 3 = (ce8 : Int) := k5433.trans ece8
      have h5435 : HDR T H5362 ce8  := (HDR_fr w5330 gce8 f5367 rfl (HDR_fr hW gce8 f5331 rfl hhdr8))
      exfalso
      omega
  · show WL _ _ _ _ 1384 [(4, vI i), (3, .ref o), (2, .ref m), (1, .ref x), (0, .ref 0)] [vI z5332] _ H5326
    have u5436 := CU_k a5343
    refine wl_of hX hb cL_1384 (rw_pop (pc' := 1385) rfl rfl ?_)
    refine wl_of hX hb cL_1385 (rw_aload_n (pc' := 1386) (v := .ref m) rfl rfl rfl ?_)
    refine wl_of hX hb cL_1386 (rw_aload_n (pc' := 1387) (v := .ref 0) rfl rfl rfl ?_)
    refine wl_of hX hb cL_1387 (rw_iload (pc' := 1389) (z := i) rfl rfl ?_)
    refine wl_of hX hb cL_1389 (rw_iconst (pc' := 1390) rfl ?_)
    refine wl_of hX hb cL_1390 (rw_iadd (pc' := 1391) rfl ?_)
    have k5439 : H5326 0 ((i + 1).toNat) = H 0 ((i + 1).toNat) := (f5331 0 ((i + 1).toNat) _ g0 (wmem_s rfl))
    refine wl_of hX hb cL_1391 (xa_I (so := 0) (pc' := 1392) (a := 0) w5330 g0 (wsh_s _) (by omega) (wty_s _ _) (by omega) (by omega) rfl (fun b5437 b5438 => ?_))
    refine wl_of hX hb cL_1392 (rw_aload_n (pc' := 1393) (v := .ref 0) rfl rfl rfl ?_)
    refine wl_of hX hb cL_1393 (rw_iload (pc' := 1395) (z := i) rfl rfl ?_)
    refine wl_of hX hb cL_1395 (rw_iconst (pc' := 1396) rfl ?_)
    refine wl_of hX hb cL_1396 (rw_iadd (pc' := 1397) rfl ?_)
    have k5442 : H5326 0 ((i + 2).toNat) = H 0 ((i + 2).toNat) := (f5331 0 ((i + 2).toNat) _ g0 (wmem_s rfl))
    refine wl_of hX hb cL_1397 (xa_I (so := 0) (pc' := 1398) (a := 0) w5330 g0 (wsh_s _) (by omega) (wty_s _ _) (by omega) (by omega) rfl (fun b5440 b5441 => ?_))
    have k5443 : wKI H5326 m = wKI H m := (wKI_fr hW gm f5331 rfl)
    have k5444 : H5326 x 9 = H x 9 := (f5331 x 9 _ gx rfl)
    have k5445 : H5326 m 6 = H m 6 := (f5331 m 6 _ gm rfl)
    have k5446 : H5326 x 11 = H x 11 := (f5331 x 11 _ gx rfl)
    have k5447 : H5326 m 13 = H m 13 := (f5331 m 13 _ gm rfl)
    have k5448 : H5326 x 8 = H x 8 := (f5331 x 8 _ gx rfl)
    have k5449 : H5326 m 3 = H m 3 := (f5331 m 3 _ gm rfl)
    rw [show H5326 0 ((i + 2).toNat) = H 0 ((i + 2).toNat) by omega]
    rw [show H5326 0 ((i + 1).toNat) = H 0 ((i + 1).toNat) by omega]
    have h5450 : RB T H5326 m e8 d8 := (RB_fr hW gm f5331 rfl hrb8)
    have h5451 : KNN T H5326 m e8 d8 := (KNN_fr hW gm f5331 rfl hknn8)
    refine wl_of hX hb cL_1398 (xc_V (pc' := 1401) (r := m) (as := [vI (H 0 ((i + 1).toNat)), vI (H 0 ((i + 2).toNat))]) (st := []) (lm_11_186) rfl rfl (Nat.le_of_ble_eq_true rfl) w5330 gm sh_42 (by decide) rfl (by decide) (u_285 (e := e8) (d := d8) (y := ((H 0 ((i + 1).toNat)))) (w := (((H 0 ((i + 2).toNat)) + 1))) w5330 gm ⟨by omega, by omega⟩ ⟨by omega, by omega⟩ (by omega) (by omega) (by omega) h5450 h5451) (fun R5452 T5453 H5454 p5455 => ?_))
    obtain ⟨e5456, w5458, f5459, z5460, e5457, b5461, p5462⟩ := p5455
    subst e5456
    subst e5457
    rcases p5462 with ⟨a5463, a5464, a5465, a5466, a5467⟩ | ⟨a5468, a5469, a5470, a5471, a5472⟩
    · show WL _ _ _ _ 1401 [(4, vI i), (3, .ref o), (2, .ref m), (1, .ref x), (0, .ref 0)] [vI z5460] _ H5454
      refine wl_of hX hb cL_1401 (rw_pop (pc' := 1402) rfl rfl ?_)
      refine wl_of hX hb cL_1402 (rw_goto (p1 := 1654) (by decide) ?_)
      have k5473 : H5454 x 9 = H5326 x 9 := (f5459 x 9 _ gx rfl)
      have k5474 : H5454 m 6 = H5326 m 6 := (f5459 m 6 _ gm rfl)
      have k5475 : H5454 x 11 = H5326 x 11 := (f5459 x 11 _ gx rfl)
      have k5476 : H5454 m 13 = H5326 m 13 := (f5459 m 13 _ gm rfl)
      have k5477 : H5454 x 8 = H5326 x 8 := (f5459 x 8 _ gx rfl)
      have k5478 : H5454 m 3 = H5326 m 3 := (f5459 m 3 _ gm rfl)
      have k5479 : H5454 x 0 = H x 0 := ((f5459 x 0 _ gx rfl).trans (f5331 x 0 _ gx rfl))
      have q5480 : H5454 x 0 = (tc : Int) := k5479.trans e0
      have k5481 : H5454 m 5 = H m 5 := ((f5459 m 5 _ gm rfl).trans (f5331 m 5 _ gm rfl))
      have q5482 : H5454 m 5 = (tm : Int) := k5481.trans em
      have k5483 : H5454 x 6 = H x 6 := ((f5459 x 6 _ gx rfl).trans (f5331 x 6 _ gx rfl))
      have q5484 : H5454 x 6 = (cu : Int) := k5483.trans ecu
      have k5485 : H5454 x 7 = H x 7 := ((f5459 x 7 _ gx rfl).trans (f5331 x 7 _ gx rfl))
      have q5486 : H5454 x 7 = (dr : Int) := k5485.trans edr
      have k5487 : H5454 ce8 9 = H5326 ce8 9 := (f5459 ce8 9 _ gce8 rfl)
      have h5488 : TP T H5454 tc B := (TP_fr w5330 gtc f5459 rfl (TP_fr hW gtc f5331 rfl htc))
      have h5489 : TM T H5454 tm B := (TM_fr w5330 gtm f5459 rfl (TM_fr hW gtm f5331 rfl htm))
      have h5490 : DD T H5454 cu  := (DD_fr w5330 gcu f5459 rfl (DD_fr hW gcu f5331 rfl hcu))
      have h5491 : DD T H5454 dr  := (DD_fr w5330 gdr f5459 rfl (DD_fr hW gdr f5331 rfl hdr))
      have h5492 : DE T H5454 cu  := (DE_fr w5330 gcu f5459 rfl (DE_fr hW gcu f5331 rfl hdec))
      have h5493 : DE T H5454 dr  := (DE_fr w5330 gdr f5459 rfl (DE_fr hW gdr f5331 rfl hded))
      have h5494 : SP T H5454 x C8 := (SP_fr w5330 gx f5459 rfl (SP_fr hW gx f5331 rfl hsp))
      have h5495 : CU T H5454 cu (wq_u e8 13 (((H 0 ((i + 1).toNat)))).toNat (((H 0 ((i + 2).toNat)) + 1))) d8 n8 := (CU_fr w5330 gcu f5459 rfl a5343)
      have h5496 : CY T H5454 cu (d8 0 3) g8 (H cu 17) := (CY_fr w5330 gcu f5459 rfl (CY_fr hW gcu f5331 rfl h5322))
      have k5497 : H5454 x 3 = H x 3 := ((f5459 x 3 _ gx rfl).trans (f5331 x 3 _ gx rfl))
      have q5498 : H5454 x 3 = (ce8 : Int) := k5497.trans ece8
      have h5499 : HDR T H5454 ce8  := (HDR_fr w5330 gce8 f5459 rfl (HDR_fr hW gce8 f5331 rfl hhdr8))
      exfalso
      omega
    · show WL _ _ _ _ 1401 [(4, vI i), (3, .ref o), (2, .ref m), (1, .ref x), (0, .ref 0)] [vI z5460] _ H5454
      refine wl_of hX hb cL_1401 (rw_pop (pc' := 1402) rfl rfl ?_)
      refine wl_of hX hb cL_1402 (rw_goto (p1 := 1654) (by decide) ?_)
      have k5500 : H5454 x 9 = H5326 x 9 := (f5459 x 9 _ gx rfl)
      have k5501 : H5454 m 6 = H5326 m 6 := (f5459 m 6 _ gm rfl)
      have k5502 : H5454 x 11 = H5326 x 11 := (f5459 x 11 _ gx rfl)
      have k5503 : H5454 m 13 = H5326 m 13 := (f5459 m 13 _ gm rfl)
      have k5504 : H5454 x 8 = H5326 x 8 := (f5459 x 8 _ gx rfl)
      have k5505 : H5454 m 3 = H5326 m 3 := (f5459 m 3 _ gm rfl)
      have k5506 : H5454 x 0 = H x 0 := ((f5459 x 0 _ gx rfl).trans (f5331 x 0 _ gx rfl))
      have q5507 : H5454 x 0 = (tc : Int) := k5506.trans e0
      have k5508 : H5454 m 5 = H m 5 := ((f5459 m 5 _ gm rfl).trans (f5331 m 5 _ gm rfl))
      have q5509 : H5454 m 5 = (tm : Int) := k5508.trans em
      have k5510 : H5454 x 6 = H x 6 := ((f5459 x 6 _ gx rfl).trans (f5331 x 6 _ gx rfl))
      have q5511 : H5454 x 6 = (cu : Int) := k5510.trans ecu
      have k5512 : H5454 x 7 = H x 7 := ((f5459 x 7 _ gx rfl).trans (f5331 x 7 _ gx rfl))
      have q5513 : H5454 x 7 = (dr : Int) := k5512.trans edr
      have k5514 : H5454 ce8 9 = H5326 ce8 9 := (f5459 ce8 9 _ gce8 rfl)
      have h5515 : TP T H5454 tc B := (TP_fr w5330 gtc f5459 rfl (TP_fr hW gtc f5331 rfl htc))
      have h5516 : TM T H5454 tm B := (TM_fr w5330 gtm f5459 rfl (TM_fr hW gtm f5331 rfl htm))
      have h5517 : DD T H5454 cu  := (DD_fr w5330 gcu f5459 rfl (DD_fr hW gcu f5331 rfl hcu))
      have h5518 : DD T H5454 dr  := (DD_fr w5330 gdr f5459 rfl (DD_fr hW gdr f5331 rfl hdr))
      have h5519 : DE T H5454 cu  := (DE_fr w5330 gcu f5459 rfl (DE_fr hW gcu f5331 rfl hdec))
      have h5520 : DE T H5454 dr  := (DE_fr w5330 gdr f5459 rfl (DE_fr hW gdr f5331 rfl hded))
      have h5521 : SP T H5454 x C8 := (SP_fr w5330 gx f5459 rfl (SP_fr hW gx f5331 rfl hsp))
      have h5522 : CU T H5454 cu (wq_u e8 13 (((H 0 ((i + 1).toNat)))).toNat (((H 0 ((i + 2).toNat)) + 1))) d8 n8 := (CU_fr w5330 gcu f5459 rfl a5343)
      have h5523 : CY T H5454 cu (d8 0 3) g8 (H cu 17) := (CY_fr w5330 gcu f5459 rfl (CY_fr hW gcu f5331 rfl h5322))
      have k5524 : H5454 x 3 = H x 3 := ((f5459 x 3 _ gx rfl).trans (f5331 x 3 _ gx rfl))
      have q5525 : H5454 x 3 = (ce8 : Int) := k5524.trans ece8
      have h5526 : HDR T H5454 ce8  := (HDR_fr w5330 gce8 f5459 rfl (HDR_fr hW gce8 f5331 rfl hhdr8))
      have h5527 : RY T H5454 m (d8 0 3) g8 (H m 32) := (RY_fr w5330 gm f5459 rfl (RY_fr hW gm f5331 rfl h5323))
      exact WL.loc hX (by simp) (next T H5454 ⟨⟨w5458, g0, gx, gm, go, by omega, by omega⟩, ⟨_, tc, tm, cu, dr, _, _, _, _, _, ce8, q5507, gtc, h5515, q5509, gtm, h5516, q5511, gcu, q5513, gdr, h5517, h5518, h5519, h5520, h5521, hC1, hC2, h5522, a5472, (h5523).1, (h5527).1, (fun i hi => (wq_u_row hi).trans (hE i hi)), (fun h h1 h2 => by rw [wq_u_e2 (fun c => by omega)]; exact hZ h h1 h2), (by omega), (by assumption), (by omega), (by first | assumption | exact SG_0), q5525, gce8, (by first | assumption | exact CEN_new (by omega)), h5526, (by first | assumption | exact KNN_new (by omega)), gm⟩, by omega, by omega⟩ (by omega) (by omega))
set_option maxHeartbeats 4000000 in
theorem wl_c40 {kt : Nat → Option mc_E} {CB SB : Nat} {X : mc_S → Prop} {T : wq_T} {H : wq_H} {Len x m o : Nat} {i : Int} (hX : wlX kt CB SB X) (hb : T.2.1 ≤ CB ∧ T.2.2.1 ≤ SB) (hI : wlJ Len x m o T H) (hL : Len ≤ 3072) (hi : 0 ≤ i ∧ i + 6 ≤ Len) (hb2 : T.2.1 + 20 ≤ CB ∧ T.2.2.1 + 500 ≤ SB)  (next : ∀ T' H', wlJ Len x m o T' H' → T'.2.1 ≤ T.2.1 + 20 → T'.2.2.1 ≤ T.2.2.1 + 500 → WL kt CB SB X 1654 (wlL i x m o) [] T' H') : WL kt CB SB X 1405 (wlL i x m o) [] T H := by
  obtain ⟨⟨hW, g0, gx, gm, go, hK, hr⟩, hXI, hY1, hY2⟩ := hI
  refine wl_of hX hb cL_1405 (rw_aload_n (pc' := 1406) (v := .ref x) rfl rfl rfl ?_)
  refine wl_of hX hb cL_1406 (rw_aload_n (pc' := 1407) (v := .ref 0) rfl rfl rfl ?_)
  refine wl_of hX hb cL_1407 (rw_iload (pc' := 1409) (z := i) rfl rfl ?_)
  refine wl_of hX hb cL_1409 (rw_iconst (pc' := 1410) rfl ?_)
  refine wl_of hX hb cL_1410 (rw_iadd (pc' := 1411) rfl ?_)
  refine wl_of hX hb cL_1411 (xa_I (so := 0) (pc' := 1412) (a := 0) hW g0 (wsh_s _) (by omega) (wty_s _ _) (by omega) (by omega) rfl (fun b5528 b5529 => ?_))
  obtain ⟨B, tc, tm, cu, dr, C8, e8, d8, n8, g8, ce8, e0, gtc, htc, em, gtm, htm, ecu, gcu, edr, gdr, hcu, hdr, hdec, hded, hsp, hC1, hC2, hcu8, hrb8, hcg8, hmn8, hE, hZ, hn8, hXA, hV8, hSG, ece8, gce8, hcen8, hhdr8, hknn8, -⟩ := hXI
  have hN3 := RB_n3 hrb8
  have hE13 : ∀ h : Nat, h < 24 → 0 ≤ e8 13 h ∧ e8 13 h ≤ 100 := fun k hk => by
    obtain ⟨s, h1, h2, h3⟩ := hcu8.1.2.2.1
    exact ⟨(h3 k hk).1, (h3 k hk).2.1⟩
  have hXW := hXA.1
  have hXN := hXA.2
  have hE0 : e8 0 3 = d8 0 3 ∧ e8 0 0 = d8 0 0 := by
    have h := hE 0 (by decide)
    exact ⟨congrFun h 3, congrFun h 0⟩
  have u5530 := CU_k hcu8
  have h5531 : CY T H cu (d8 0 3) g8 (H cu 17) := ⟨hcg8, rfl⟩
  have h5532 : RY T H m (d8 0 3) g8 (H m 32) := ⟨hmn8, rfl⟩
  obtain ⟨t9, ht9⟩ : ∃ t : Int, t = H x 9 := ⟨_, rfl⟩
  obtain ⟨y9, hy9⟩ : ∃ y : Int, y = H 0 ((i + 1).toNat) := ⟨_, rfl⟩
  refine wl_of hX hb cL_1412 (xc_V (pc' := 1415) (r := x) (as := [vI (H 0 ((i + 1).toNat))]) (st := []) (lm_11_187) rfl rfl (Nat.le_of_ble_eq_true rfl) hW gx sh_1 (by decide) rfl (by decide) (u_154 (e := e8) (d := d8) (n := n8) (y := ((H 0 ((i + 1).toNat)))) hW gx ⟨by omega, by omega⟩ ecu gcu ece8 gce8 (by omega) (by omega) (by omega) hcu8 hcen8) (fun R5533 T5534 H5535 p5536 => ?_))
  obtain ⟨e5537, w5539, f5540, z5541, e5538, b5542, p5543⟩ := p5536
  subst e5537
  subst e5538
  rcases p5543 with ⟨a5544, a5545, a5546, a5547, a5548⟩ | ⟨a5549, a5550, a5551, a5552⟩
  · show WL _ _ _ _ 1415 [(4, vI i), (3, .ref o), (2, .ref m), (1, .ref x), (0, .ref 0)] [vI z5541] _ H5535
    have u5553 := CU_k a5548
    refine wl_of hX hb cL_1415 (rw_pop (pc' := 1416) rfl rfl ?_)
    refine wl_of hX hb cL_1416 (rw_aload_n (pc' := 1417) (v := .ref m) rfl rfl rfl ?_)
    refine wl_of hX hb cL_1417 (rw_aload_n (pc' := 1418) (v := .ref 0) rfl rfl rfl ?_)
    refine wl_of hX hb cL_1418 (rw_iload (pc' := 1420) (z := i) rfl rfl ?_)
    refine wl_of hX hb cL_1420 (rw_iconst (pc' := 1421) rfl ?_)
    refine wl_of hX hb cL_1421 (rw_iadd (pc' := 1422) rfl ?_)
    have k5556 : H5535 0 ((i + 1).toNat) = H 0 ((i + 1).toNat) := (f5540 0 ((i + 1).toNat) _ g0 (wmem_s rfl))
    refine wl_of hX hb cL_1422 (xa_I (so := 0) (pc' := 1423) (a := 0) w5539 g0 (wsh_s _) (by omega) (wty_s _ _) (by omega) (by omega) rfl (fun b5554 b5555 => ?_))
    have k5557 : wKI H5535 m = wKI H m := (wKI_fr hW gm f5540 rfl)
    have k5558 : H5535 x 9 = H x 9 := (f5540 x 9 _ gx rfl)
    have k5559 : H5535 m 6 = H m 6 := (f5540 m 6 _ gm rfl)
    have k5560 : H5535 x 11 = H x 11 := (f5540 x 11 _ gx rfl)
    have k5561 : H5535 m 13 = H m 13 := (f5540 m 13 _ gm rfl)
    have k5562 : H5535 x 8 = H x 8 := (f5540 x 8 _ gx rfl)
    have k5563 : H5535 m 3 = H m 3 := (f5540 m 3 _ gm rfl)
    rw [show H5535 0 ((i + 1).toNat) = H 0 ((i + 1).toNat) by omega]
    have h5564 : RB T H5535 m e8 d8 := (RB_fr hW gm f5540 rfl hrb8)
    have h5565 : KNN T H5535 m e8 d8 := (KNN_fr hW gm f5540 rfl hknn8)
    refine wl_of hX hb cL_1423 (xc_V (pc' := 1426) (r := m) (as := [vI (H 0 ((i + 1).toNat))]) (st := []) (lm_11_191) rfl rfl (Nat.le_of_ble_eq_true rfl) w5539 gm sh_42 (by decide) rfl (by decide) (u_286 (e := e8) (d := d8) (y := ((H 0 ((i + 1).toNat)))) w5539 gm ⟨by omega, by omega⟩ (by omega) (by omega) h5564 h5565) (fun R5566 T5567 H5568 p5569 => ?_))
    obtain ⟨e5570, w5572, f5573, z5574, e5571, b5575, p5576⟩ := p5569
    subst e5570
    subst e5571
    rcases p5576 with ⟨a5577, a5578, a5579, a5580, a5581, a5582⟩ | ⟨a5583, a5584, a5585, a5586, a5587⟩
    · show WL _ _ _ _ 1426 [(4, vI i), (3, .ref o), (2, .ref m), (1, .ref x), (0, .ref 0)] [vI z5574] _ H5568
      refine wl_of hX hb cL_1426 (rw_pop (pc' := 1427) rfl rfl ?_)
      refine wl_of hX hb cL_1427 (rw_goto (p1 := 1654) (by decide) ?_)
      have k5588 : H5568 x 9 = H5535 x 9 := (f5573 x 9 _ gx rfl)
      have k5589 : H5568 m 6 = H5535 m 6 := (f5573 m 6 _ gm rfl)
      have k5590 : H5568 x 11 = H5535 x 11 := (f5573 x 11 _ gx rfl)
      have k5591 : H5568 m 13 = H5535 m 13 := (f5573 m 13 _ gm rfl)
      have k5592 : H5568 x 8 = H5535 x 8 := (f5573 x 8 _ gx rfl)
      have k5593 : H5568 m 3 = H5535 m 3 := (f5573 m 3 _ gm rfl)
      have k5594 : H5568 x 0 = H x 0 := ((f5573 x 0 _ gx rfl).trans (f5540 x 0 _ gx rfl))
      have q5595 : H5568 x 0 = (tc : Int) := k5594.trans e0
      have k5596 : H5568 m 5 = H m 5 := ((f5573 m 5 _ gm rfl).trans (f5540 m 5 _ gm rfl))
      have q5597 : H5568 m 5 = (tm : Int) := k5596.trans em
      have k5598 : H5568 x 6 = H x 6 := ((f5573 x 6 _ gx rfl).trans (f5540 x 6 _ gx rfl))
      have q5599 : H5568 x 6 = (cu : Int) := k5598.trans ecu
      have k5600 : H5568 x 7 = H x 7 := ((f5573 x 7 _ gx rfl).trans (f5540 x 7 _ gx rfl))
      have q5601 : H5568 x 7 = (dr : Int) := k5600.trans edr
      have k5602 : H5568 ce8 9 = H5535 ce8 9 := (f5573 ce8 9 _ gce8 rfl)
      have h5603 : TP T H5568 tc B := (TP_fr w5539 gtc f5573 rfl (TP_fr hW gtc f5540 rfl htc))
      have h5604 : TM T H5568 tm B := (TM_fr w5539 gtm f5573 rfl (TM_fr hW gtm f5540 rfl htm))
      have h5605 : DD T H5568 cu  := (DD_fr w5539 gcu f5573 rfl (DD_fr hW gcu f5540 rfl hcu))
      have h5606 : DD T H5568 dr  := (DD_fr w5539 gdr f5573 rfl (DD_fr hW gdr f5540 rfl hdr))
      have h5607 : DE T H5568 cu  := (DE_fr w5539 gcu f5573 rfl (DE_fr hW gcu f5540 rfl hdec))
      have h5608 : DE T H5568 dr  := (DE_fr w5539 gdr f5573 rfl (DE_fr hW gdr f5540 rfl hded))
      have h5609 : SP T H5568 x C8 := (SP_fr w5539 gx f5573 rfl (SP_fr hW gx f5540 rfl hsp))
      have h5610 : CU T H5568 cu (wq_u e8 13 (((H 0 ((i + 1).toNat)))).toNat 0) d8 n8 := (CU_fr w5539 gcu f5573 rfl a5548)
      have h5611 : CY T H5568 cu (d8 0 3) g8 (H cu 17) := (CY_fr w5539 gcu f5573 rfl (CY_fr hW gcu f5540 rfl h5531))
      have k5612 : H5568 x 3 = H x 3 := ((f5573 x 3 _ gx rfl).trans (f5540 x 3 _ gx rfl))
      have q5613 : H5568 x 3 = (ce8 : Int) := k5612.trans ece8
      have h5614 : HDR T H5568 ce8  := (HDR_fr w5539 gce8 f5573 rfl (HDR_fr hW gce8 f5540 rfl hhdr8))
      have h5615 : RY T H5568 m (d8 0 3) g8 (H m 32) := (RY_fr w5539 gm f5573 rfl (RY_fr hW gm f5540 rfl h5532))
      exact WL.loc hX (by simp) (next T H5568 ⟨⟨w5572, g0, gx, gm, go, by omega, by omega⟩, ⟨_, tc, tm, cu, dr, _, _, _, _, _, ce8, q5595, gtc, h5603, q5597, gtm, h5604, q5599, gcu, q5601, gdr, h5605, h5606, h5607, h5608, h5609, hC1, hC2, h5610, a5582, (h5611).1, (h5615).1, (fun i hi => (wq_u_row hi).trans (hE i hi)), (fun h h1 h2 => by rw [wq_u_e2 (fun c => by omega)]; exact hZ h h1 h2), (by omega), (by assumption), (by omega), (by first | assumption | exact SG_0), q5613, gce8, (by first | assumption | exact CEN_new (by omega)), h5614, (by first | assumption | exact KNN_new (by omega)), gm⟩, by omega, by omega⟩ (by omega) (by omega))
    · show WL _ _ _ _ 1426 [(4, vI i), (3, .ref o), (2, .ref m), (1, .ref x), (0, .ref 0)] [vI z5574] _ H5568
      refine wl_of hX hb cL_1426 (rw_pop (pc' := 1427) rfl rfl ?_)
      refine wl_of hX hb cL_1427 (rw_goto (p1 := 1654) (by decide) ?_)
      have k5616 : H5568 x 9 = H5535 x 9 := (f5573 x 9 _ gx rfl)
      have k5617 : H5568 m 6 = H5535 m 6 := (f5573 m 6 _ gm rfl)
      have k5618 : H5568 x 11 = H5535 x 11 := (f5573 x 11 _ gx rfl)
      have k5619 : H5568 m 13 = H5535 m 13 := (f5573 m 13 _ gm rfl)
      have k5620 : H5568 x 8 = H5535 x 8 := (f5573 x 8 _ gx rfl)
      have k5621 : H5568 m 3 = H5535 m 3 := (f5573 m 3 _ gm rfl)
      have k5622 : H5568 x 0 = H x 0 := ((f5573 x 0 _ gx rfl).trans (f5540 x 0 _ gx rfl))
      have q5623 : H5568 x 0 = (tc : Int) := k5622.trans e0
      have k5624 : H5568 m 5 = H m 5 := ((f5573 m 5 _ gm rfl).trans (f5540 m 5 _ gm rfl))
      have q5625 : H5568 m 5 = (tm : Int) := k5624.trans em
      have k5626 : H5568 x 6 = H x 6 := ((f5573 x 6 _ gx rfl).trans (f5540 x 6 _ gx rfl))
      have q5627 : H5568 x 6 = (cu : Int) := k5626.trans ecu
      have k5628 : H5568 x 7 = H x 7 := ((f5573 x 7 _ gx rfl).trans (f5540 x 7 _ gx rfl))
      have q5629 : H5568 x 7 = (dr : Int) := k5628.trans edr
      have k5630 : H5568 ce8 9 = H5535 ce8 9 := (f5573 ce8 9 _ gce8 rfl)
      have h5631 : TP T H5568 tc B := (TP_fr w5539 gtc f5573 rfl (TP_fr hW gtc f5540 rfl htc))
      have h5632 : TM T H5568 tm B := (TM_fr w5539 gtm f5573 rfl (TM_fr hW gtm f5540 rfl htm))
      have h5633 : DD T H5568 cu  := (DD_fr w5539 gcu f5573 rfl (DD_fr hW gcu f5540 rfl hcu))
      have h5634 : DD T H5568 dr  := (DD_fr w5539 gdr f5573 rfl (DD_fr hW gdr f5540 rfl hdr))
      have h5635 : DE T H5568 cu  := (DE_fr w5539 gcu f5573 rfl (DE_fr hW gcu f5540 rfl hdec))
      have h5636 : DE T H5568 dr  := (DE_fr w5539 gdr f5573 rfl (DE_fr hW gdr f5540 rfl hded))
      have h5637 : SP T H5568 x C8 := (SP_fr w5539 gx f5573 rfl (SP_fr hW gx f5540 rfl hsp))
      have h5638 : CU T H5568 cu (wq_u e8 13 (((H 0 ((i + 1).toNat)))).toNat 0) d8 n8 := (CU_fr w5539 gcu f5573 rfl a5548)
      have h5639 : CY T H5568 cu (d8 0 3) g8 (H cu 17) := (CY_fr w5539 gcu f5573 rfl (CY_fr hW gcu f5540 rfl h5531))
      have k5640 : H5568 x 3 = H x 3 := ((f5573 x 3 _ gx rfl).trans (f5540 x 3 _ gx rfl))
      have q5641 : H5568 x 3 = (ce8 : Int) := k5640.trans ece8
      have h5642 : HDR T H5568 ce8  := (HDR_fr w5539 gce8 f5573 rfl (HDR_fr hW gce8 f5540 rfl hhdr8))
      exfalso
      omega
  · show WL _ _ _ _ 1415 [(4, vI i), (3, .ref o), (2, .ref m), (1, .ref x), (0, .ref 0)] [vI z5541] _ H5535
    have u5643 := CU_k a5551
    refine wl_of hX hb cL_1415 (rw_pop (pc' := 1416) rfl rfl ?_)
    refine wl_of hX hb cL_1416 (rw_aload_n (pc' := 1417) (v := .ref m) rfl rfl rfl ?_)
    refine wl_of hX hb cL_1417 (rw_aload_n (pc' := 1418) (v := .ref 0) rfl rfl rfl ?_)
    refine wl_of hX hb cL_1418 (rw_iload (pc' := 1420) (z := i) rfl rfl ?_)
    refine wl_of hX hb cL_1420 (rw_iconst (pc' := 1421) rfl ?_)
    refine wl_of hX hb cL_1421 (rw_iadd (pc' := 1422) rfl ?_)
    have k5646 : H5535 0 ((i + 1).toNat) = H 0 ((i + 1).toNat) := (f5540 0 ((i + 1).toNat) _ g0 (wmem_s rfl))
    refine wl_of hX hb cL_1422 (xa_I (so := 0) (pc' := 1423) (a := 0) w5539 g0 (wsh_s _) (by omega) (wty_s _ _) (by omega) (by omega) rfl (fun b5644 b5645 => ?_))
    have k5647 : wKI H5535 m = wKI H m := (wKI_fr hW gm f5540 rfl)
    have k5648 : H5535 x 9 = H x 9 := (f5540 x 9 _ gx rfl)
    have k5649 : H5535 m 6 = H m 6 := (f5540 m 6 _ gm rfl)
    have k5650 : H5535 x 11 = H x 11 := (f5540 x 11 _ gx rfl)
    have k5651 : H5535 m 13 = H m 13 := (f5540 m 13 _ gm rfl)
    have k5652 : H5535 x 8 = H x 8 := (f5540 x 8 _ gx rfl)
    have k5653 : H5535 m 3 = H m 3 := (f5540 m 3 _ gm rfl)
    rw [show H5535 0 ((i + 1).toNat) = H 0 ((i + 1).toNat) by omega]
    have h5654 : RB T H5535 m e8 d8 := (RB_fr hW gm f5540 rfl hrb8)
    have h5655 : KNN T H5535 m e8 d8 := (KNN_fr hW gm f5540 rfl hknn8)
    refine wl_of hX hb cL_1423 (xc_V (pc' := 1426) (r := m) (as := [vI (H 0 ((i + 1).toNat))]) (st := []) (lm_11_191) rfl rfl (Nat.le_of_ble_eq_true rfl) w5539 gm sh_42 (by decide) rfl (by decide) (u_286 (e := e8) (d := d8) (y := ((H 0 ((i + 1).toNat)))) w5539 gm ⟨by omega, by omega⟩ (by omega) (by omega) h5654 h5655) (fun R5656 T5657 H5658 p5659 => ?_))
    obtain ⟨e5660, w5662, f5663, z5664, e5661, b5665, p5666⟩ := p5659
    subst e5660
    subst e5661
    rcases p5666 with ⟨a5667, a5668, a5669, a5670, a5671, a5672⟩ | ⟨a5673, a5674, a5675, a5676, a5677⟩
    · show WL _ _ _ _ 1426 [(4, vI i), (3, .ref o), (2, .ref m), (1, .ref x), (0, .ref 0)] [vI z5664] _ H5658
      refine wl_of hX hb cL_1426 (rw_pop (pc' := 1427) rfl rfl ?_)
      refine wl_of hX hb cL_1427 (rw_goto (p1 := 1654) (by decide) ?_)
      have k5678 : H5658 x 9 = H5535 x 9 := (f5663 x 9 _ gx rfl)
      have k5679 : H5658 m 6 = H5535 m 6 := (f5663 m 6 _ gm rfl)
      have k5680 : H5658 x 11 = H5535 x 11 := (f5663 x 11 _ gx rfl)
      have k5681 : H5658 m 13 = H5535 m 13 := (f5663 m 13 _ gm rfl)
      have k5682 : H5658 x 8 = H5535 x 8 := (f5663 x 8 _ gx rfl)
      have k5683 : H5658 m 3 = H5535 m 3 := (f5663 m 3 _ gm rfl)
      have k5684 : H5658 x 0 = H x 0 := ((f5663 x 0 _ gx rfl).trans (f5540 x 0 _ gx rfl))
      have q5685 : H5658 x 0 = (tc : Int) := k5684.trans e0
      have k5686 : H5658 m 5 = H m 5 := ((f5663 m 5 _ gm rfl).trans (f5540 m 5 _ gm rfl))
      have q5687 : H5658 m 5 = (tm : Int) := k5686.trans em
      have k5688 : H5658 x 6 = H x 6 := ((f5663 x 6 _ gx rfl).trans (f5540 x 6 _ gx rfl))
      have q5689 : H5658 x 6 = (cu : Int) := k5688.trans ecu
      have k5690 : H5658 x 7 = H x 7 := ((f5663 x 7 _ gx rfl).trans (f5540 x 7 _ gx rfl))
      have q5691 : H5658 x 7 = (dr : Int) := k5690.trans edr
      have h5692 : CEN T H5658 ce8 e8 d8 := (CEN_fr w5539 gce8 f5663 rfl a5552)
      have h5693 : TP T H5658 tc B := (TP_fr w5539 gtc f5663 rfl (TP_fr hW gtc f5540 rfl htc))
      have h5694 : TM T H5658 tm B := (TM_fr w5539 gtm f5663 rfl (TM_fr hW gtm f5540 rfl htm))
      have h5695 : DD T H5658 cu  := (DD_fr w5539 gcu f5663 rfl (DD_fr hW gcu f5540 rfl hcu))
      have h5696 : DD T H5658 dr  := (DD_fr w5539 gdr f5663 rfl (DD_fr hW gdr f5540 rfl hdr))
      have h5697 : DE T H5658 cu  := (DE_fr w5539 gcu f5663 rfl (DE_fr hW gcu f5540 rfl hdec))
      have h5698 : DE T H5658 dr  := (DE_fr w5539 gdr f5663 rfl (DE_fr hW gdr f5540 rfl hded))
      have h5699 : SP T H5658 x C8 := (SP_fr w5539 gx f5663 rfl (SP_fr hW gx f5540 rfl hsp))
      have h5700 : CU T H5658 cu e8 d8 n8 := (CU_fr w5539 gcu f5663 rfl a5551)
      have h5701 : CY T H5658 cu (d8 0 3) g8 (H cu 17) := (CY_fr w5539 gcu f5663 rfl (CY_fr hW gcu f5540 rfl h5531))
      have k5702 : H5658 x 3 = H x 3 := ((f5663 x 3 _ gx rfl).trans (f5540 x 3 _ gx rfl))
      have q5703 : H5658 x 3 = (ce8 : Int) := k5702.trans ece8
      have h5704 : HDR T H5658 ce8  := (HDR_fr w5539 gce8 f5663 rfl (HDR_fr hW gce8 f5540 rfl hhdr8))
      exfalso
      omega
    · show WL _ _ _ _ 1426 [(4, vI i), (3, .ref o), (2, .ref m), (1, .ref x), (0, .ref 0)] [vI z5664] _ H5658
      refine wl_of hX hb cL_1426 (rw_pop (pc' := 1427) rfl rfl ?_)
      refine wl_of hX hb cL_1427 (rw_goto (p1 := 1654) (by decide) ?_)
      have k5705 : H5658 x 9 = H5535 x 9 := (f5663 x 9 _ gx rfl)
      have k5706 : H5658 m 6 = H5535 m 6 := (f5663 m 6 _ gm rfl)
      have k5707 : H5658 x 11 = H5535 x 11 := (f5663 x 11 _ gx rfl)
      have k5708 : H5658 m 13 = H5535 m 13 := (f5663 m 13 _ gm rfl)
      have k5709 : H5658 x 8 = H5535 x 8 := (f5663 x 8 _ gx rfl)
      have k5710 : H5658 m 3 = H5535 m 3 := (f5663 m 3 _ gm rfl)
      have k5711 : H5658 x 0 = H x 0 := ((f5663 x 0 _ gx rfl).trans (f5540 x 0 _ gx rfl))
      have q5712 : H5658 x 0 = (tc : Int) := k5711.trans e0
      have k5713 : H5658 m 5 = H m 5 := ((f5663 m 5 _ gm rfl).trans (f5540 m 5 _ gm rfl))
      have q5714 : H5658 m 5 = (tm : Int) := k5713.trans em
      have k5715 : H5658 x 6 = H x 6 := ((f5663 x 6 _ gx rfl).trans (f5540 x 6 _ gx rfl))
      have q5716 : H5658 x 6 = (cu : Int) := k5715.trans ecu
      have k5717 : H5658 x 7 = H x 7 := ((f5663 x 7 _ gx rfl).trans (f5540 x 7 _ gx rfl))
      have q5718 : H5658 x 7 = (dr : Int) := k5717.trans edr
      have h5719 : CEN T H5658 ce8 e8 d8 := (CEN_fr w5539 gce8 f5663 rfl a5552)
      have h5720 : TP T H5658 tc B := (TP_fr w5539 gtc f5663 rfl (TP_fr hW gtc f5540 rfl htc))
      have h5721 : TM T H5658 tm B := (TM_fr w5539 gtm f5663 rfl (TM_fr hW gtm f5540 rfl htm))
      have h5722 : DD T H5658 cu  := (DD_fr w5539 gcu f5663 rfl (DD_fr hW gcu f5540 rfl hcu))
      have h5723 : DD T H5658 dr  := (DD_fr w5539 gdr f5663 rfl (DD_fr hW gdr f5540 rfl hdr))
      have h5724 : DE T H5658 cu  := (DE_fr w5539 gcu f5663 rfl (DE_fr hW gcu f5540 rfl hdec))
      have h5725 : DE T H5658 dr  := (DE_fr w5539 gdr f5663 rfl (DE_fr hW gdr f5540 rfl hded))
      have h5726 : SP T H5658 x C8 := (SP_fr w5539 gx f5663 rfl (SP_fr hW gx f5540 rfl hsp))
      have h5727 : CU T H5658 cu e8 d8 n8 := (CU_fr w5539 gcu f5663 rfl a5551)
      have h5728 : CY T H5658 cu (d8 0 3) g8 (H cu 17) := (CY_fr w5539 gcu f5663 rfl (CY_fr hW gcu f5540 rfl h5531))
      have k5729 : H5658 x 3 = H x 3 := ((f5663 x 3 _ gx rfl).trans (f5540 x 3 _ gx rfl))
      have q5730 : H5658 x 3 = (ce8 : Int) := k5729.trans ece8
      have h5731 : HDR T H5658 ce8  := (HDR_fr w5539 gce8 f5663 rfl (HDR_fr hW gce8 f5540 rfl hhdr8))
      have h5732 : RY T H5658 m (d8 0 3) g8 (H m 32) := (RY_fr w5539 gm f5663 rfl (RY_fr hW gm f5540 rfl h5532))
      exact WL.loc hX (by simp) (next T H5658 ⟨⟨w5662, g0, gx, gm, go, by omega, by omega⟩, ⟨_, tc, tm, cu, dr, _, _, _, _, _, ce8, q5712, gtc, h5720, q5714, gtm, h5721, q5716, gcu, q5718, gdr, h5722, h5723, h5724, h5725, h5726, hC1, hC2, h5727, a5676, (h5728).1, (h5732).1, hE, hZ, (by omega), (by assumption), (by omega), (by first | assumption | exact SG_0), q5730, gce8, h5719, h5731, a5677, gm⟩, by omega, by omega⟩ (by omega) (by omega))
set_option maxHeartbeats 4000000 in
theorem wl_c41 {kt : Nat → Option mc_E} {CB SB : Nat} {X : mc_S → Prop} {T : wq_T} {H : wq_H} {Len x m o : Nat} {i : Int} (hX : wlX kt CB SB X) (hb : T.2.1 ≤ CB ∧ T.2.2.1 ≤ SB) (hI : wlJ Len x m o T H) (hL : Len ≤ 3072) (hi : 0 ≤ i ∧ i + 6 ≤ Len) (hb2 : T.2.1 + 20 ≤ CB ∧ T.2.2.1 + 500 ≤ SB)  (next : ∀ T' H', wlJ Len x m o T' H' → T'.2.1 ≤ T.2.1 + 20 → T'.2.2.1 ≤ T.2.2.1 + 500 → WL kt CB SB X 1654 (wlL i x m o) [] T' H') : WL kt CB SB X 1430 (wlL i x m o) [] T H := by
  obtain ⟨⟨hW, g0, gx, gm, go, hK, hr⟩, hXI, hY1, hY2⟩ := hI
  refine wl_of hX hb cL_1430 (rw_aload_n (pc' := 1431) (v := .ref x) rfl rfl rfl ?_)
  refine wl_of hX hb cL_1431 (rw_aload_n (pc' := 1432) (v := .ref 0) rfl rfl rfl ?_)
  refine wl_of hX hb cL_1432 (rw_iload (pc' := 1434) (z := i) rfl rfl ?_)
  refine wl_of hX hb cL_1434 (rw_iconst (pc' := 1435) rfl ?_)
  refine wl_of hX hb cL_1435 (rw_iadd (pc' := 1436) rfl ?_)
  refine wl_of hX hb cL_1436 (xa_I (so := 0) (pc' := 1437) (a := 0) hW g0 (wsh_s _) (by omega) (wty_s _ _) (by omega) (by omega) rfl (fun b5733 b5734 => ?_))
  refine wl_of hX hb cL_1437 (xc_V (pc' := 1440) (r := x) (as := [vI (H 0 ((i + 1).toNat))]) (st := []) (lm_11_192) rfl rfl (Nat.le_of_ble_eq_true rfl) hW gx sh_1 (by decide) rfl (by decide) (s_155 hW gx ⟨by omega, by omega⟩) (fun R5735 T5736 H5737 p5738 => ?_))
  obtain ⟨e5739, w5741, f5742, z5743, e5740, b5744⟩ := p5738
  subst e5739
  subst e5740
  show WL _ _ _ _ 1440 [(4, vI i), (3, .ref o), (2, .ref m), (1, .ref x), (0, .ref 0)] [vI z5743] _ H5737
  refine wl_of hX hb cL_1440 (rw_pop (pc' := 1441) rfl rfl ?_)
  refine wl_of hX hb cL_1441 (rw_aload_n (pc' := 1442) (v := .ref m) rfl rfl rfl ?_)
  refine wl_of hX hb cL_1442 (rw_aload_n (pc' := 1443) (v := .ref 0) rfl rfl rfl ?_)
  refine wl_of hX hb cL_1443 (rw_iload (pc' := 1445) (z := i) rfl rfl ?_)
  refine wl_of hX hb cL_1445 (rw_iconst (pc' := 1446) rfl ?_)
  refine wl_of hX hb cL_1446 (rw_iadd (pc' := 1447) rfl ?_)
  have k5747 : H5737 0 ((i + 1).toNat) = H 0 ((i + 1).toNat) := (f5742 0 ((i + 1).toNat) _ g0 (wmem_s rfl))
  refine wl_of hX hb cL_1447 (xa_I (so := 0) (pc' := 1448) (a := 0) w5741 g0 (wsh_s _) (by omega) (wty_s _ _) (by omega) (by omega) rfl (fun b5745 b5746 => ?_))
  have k5748 : wKI H5737 m = wKI H m := (wKI_fr hW gm f5742 rfl)
  have k5749 : H5737 x 9 = H x 9 := (f5742 x 9 _ gx rfl)
  have k5750 : H5737 m 6 = H m 6 := (f5742 m 6 _ gm rfl)
  have k5751 : H5737 x 11 = H x 11 := (f5742 x 11 _ gx rfl)
  have k5752 : H5737 m 13 = H m 13 := (f5742 m 13 _ gm rfl)
  have k5753 : H5737 x 8 = H x 8 := (f5742 x 8 _ gx rfl)
  have k5754 : H5737 m 3 = H m 3 := (f5742 m 3 _ gm rfl)
  refine wl_of hX hb cL_1448 (xc_V (pc' := 1451) (r := m) (as := [vI (H5737 0 ((i + 1).toNat))]) (st := []) (lm_11_195) rfl rfl (Nat.le_of_ble_eq_true rfl) w5741 gm sh_42 (by decide) rfl (by decide) (s_287 w5741 gm ⟨by omega, by omega⟩ (by omega)) (fun R5755 T5756 H5757 p5758 => ?_))
  obtain ⟨e5759, w5761, f5762, z5764, e5760, b5765, p5763⟩ := p5758
  subst e5759
  subst e5760
  show WL _ _ _ _ 1451 [(4, vI i), (3, .ref o), (2, .ref m), (1, .ref x), (0, .ref 0)] [vI z5764] _ H5757
  refine wl_of hX hb cL_1451 (rw_pop (pc' := 1452) rfl rfl ?_)
  refine wl_of hX hb cL_1452 (rw_goto (p1 := 1654) (by decide) ?_)
  have k5766 : H5757 x 9 = H5737 x 9 := (f5762 x 9 _ gx rfl)
  have k5767 : H5757 m 6 = H5737 m 6 := (f5762 m 6 _ gm rfl)
  have k5768 : H5757 x 11 = H5737 x 11 := (f5762 x 11 _ gx rfl)
  have k5769 : H5757 m 13 = H5737 m 13 := (f5762 m 13 _ gm rfl)
  have k5770 : H5757 x 8 = H5737 x 8 := (f5762 x 8 _ gx rfl)
  have k5771 : H5757 m 3 = H5737 m 3 := (f5762 m 3 _ gm rfl)
  have h5772 : XI T H5757 x m := (XI_fr w5741 gx f5762 rfl (XI_fr hW gx f5742 rfl hXI))
  exact WL.loc hX (by simp) (next T H5757 ⟨⟨w5761, g0, gx, gm, go, by omega, by omega⟩, h5772, by omega, by omega⟩ (by omega) (by omega))
set_option maxHeartbeats 4000000 in
theorem wl_c42 {kt : Nat → Option mc_E} {CB SB : Nat} {X : mc_S → Prop} {T : wq_T} {H : wq_H} {Len x m o : Nat} {i : Int} (hX : wlX kt CB SB X) (hb : T.2.1 ≤ CB ∧ T.2.2.1 ≤ SB) (hI : wlJ Len x m o T H) (hL : Len ≤ 3072) (hi : 0 ≤ i ∧ i + 6 ≤ Len) (hb2 : T.2.1 + 20 ≤ CB ∧ T.2.2.1 + 500 ≤ SB)  (next : ∀ T' H', wlJ Len x m o T' H' → T'.2.1 ≤ T.2.1 + 20 → T'.2.2.1 ≤ T.2.2.1 + 500 → WL kt CB SB X 1654 (wlL i x m o) [] T' H') : WL kt CB SB X 1455 (wlL i x m o) [] T H := by
  obtain ⟨⟨hW, g0, gx, gm, go, hK, hr⟩, hXI, hY1, hY2⟩ := hI
  refine wl_of hX hb cL_1455 (rw_aload_n (pc' := 1456) (v := .ref x) rfl rfl rfl ?_)
  obtain ⟨B, tc, tm, cu, dr, C8, e8, d8, n8, g8, ce8, e0, gtc, htc, em, gtm, htm, ecu, gcu, edr, gdr, hcu, hdr, hdec, hded, hsp, hC1, hC2, hcu8, hrb8, hcg8, hmn8, hE, hZ, hn8, hXA, hV8, hSG, ece8, gce8, hcen8, hhdr8, hknn8, -⟩ := hXI
  have hN3 := RB_n3 hrb8
  have hE13 : ∀ h : Nat, h < 24 → 0 ≤ e8 13 h ∧ e8 13 h ≤ 100 := fun k hk => by
    obtain ⟨s, h1, h2, h3⟩ := hcu8.1.2.2.1
    exact ⟨(h3 k hk).1, (h3 k hk).2.1⟩
  have hXW := hXA.1
  have hXN := hXA.2
  have hE0 : e8 0 3 = d8 0 3 ∧ e8 0 0 = d8 0 0 := by
    have h := hE 0 (by decide)
    exact ⟨congrFun h 3, congrFun h 0⟩
  have u5773 := CU_k hcu8
  have h5774 : CY T H cu (d8 0 3) g8 (H cu 17) := ⟨hcg8, rfl⟩
  have h5775 : RY T H m (d8 0 3) g8 (H m 32) := ⟨hmn8, rfl⟩
  obtain ⟨t9, ht9⟩ : ∃ t : Int, t = H x 9 := ⟨_, rfl⟩
  obtain ⟨r5776, q5777, g5778⟩ := hW.ref gx (t' := 6) (n := 13) (j := 2) (p := 0) (q := 0) rfl (by decide) rfl
  refine wl_of hX hb cL_1456 (xc_V (pc' := 1459) (r := x) (as := []) (st := []) (lm_11_196) rfl rfl (Nat.le_of_ble_eq_true rfl) hW gx sh_1 (by decide) rfl (by decide) (u_156 (e := e8) (d := d8) (n := n8) hW gx ecu gcu q5777 g5778 ece8 gce8 (by assumption) (by assumption) (by omega) (by omega) (by omega) (by omega) hcu8 hcen8 hhdr8) (fun R5779 T5780 H5781 p5782 => ?_))
  obtain ⟨e5783, w5785, f5786, z5787, e5784, b5788, p5789⟩ := p5782
  subst e5783
  subst e5784
  show WL _ _ _ _ 1459 [(4, vI i), (3, .ref o), (2, .ref m), (1, .ref x), (0, .ref 0)] [vI z5787] _ H5781
  refine wl_of hX hb cL_1459 (rw_pop (pc' := 1460) rfl rfl ?_)
  refine wl_of hX hb cL_1460 (rw_aload_n (pc' := 1461) (v := .ref m) rfl rfl rfl ?_)
  have k5791 : wKI H5781 m = wKI H m := (wKI_fr hW gm f5786 rfl)
  have k5792 : H5781 x 9 = H x 9 := (f5786 x 9 _ gx rfl)
  have k5793 : H5781 m 6 = H m 6 := (f5786 m 6 _ gm rfl)
  have k5794 : H5781 x 11 = H x 11 := (f5786 x 11 _ gx rfl)
  have k5795 : H5781 m 13 = H m 13 := (f5786 m 13 _ gm rfl)
  have k5796 : H5781 x 8 = H x 8 := (f5786 x 8 _ gx rfl)
  have k5797 : H5781 m 3 = H m 3 := (f5786 m 3 _ gm rfl)
  have h5798 : RB T H5781 m e8 d8 := (RB_fr hW gm f5786 rfl hrb8)
  have h5799 : KNN T H5781 m e8 d8 := (KNN_fr hW gm f5786 rfl hknn8)
  refine wl_of hX hb cL_1461 (xc_V (pc' := 1464) (r := m) (as := []) (st := []) (lm_11_199) rfl rfl (Nat.le_of_ble_eq_true rfl) w5785 gm sh_42 (by decide) rfl (by decide) (u_288 (e := e8) (d := d8) w5785 gm (by omega) (by assumption) (by assumption) (by assumption) (by assumption) h5798 h5799) (fun R5800 T5801 H5802 p5803 => ?_))
  obtain ⟨e5804, w5806, f5807, z5808, e5805, b5809, p5810⟩ := p5803
  subst e5804
  subst e5805
  obtain ⟨a5811, a5812⟩ := p5810
  show WL _ _ _ _ 1464 [(4, vI i), (3, .ref o), (2, .ref m), (1, .ref x), (0, .ref 0)] [vI z5808] _ H5802
  refine wl_of hX hb cL_1464 (rw_pop (pc' := 1465) rfl rfl ?_)
  refine wl_of hX hb cL_1465 (rw_goto (p1 := 1654) (by decide) ?_)
  have k5813 : H5802 x 9 = H5781 x 9 := (f5807 x 9 _ gx rfl)
  have k5814 : H5802 m 6 = H5781 m 6 := (f5807 m 6 _ gm rfl)
  have k5815 : H5802 x 11 = H5781 x 11 := (f5807 x 11 _ gx rfl)
  have k5816 : H5802 m 13 = H5781 m 13 := (f5807 m 13 _ gm rfl)
  have k5817 : H5802 x 8 = H5781 x 8 := (f5807 x 8 _ gx rfl)
  have k5818 : H5802 m 3 = H5781 m 3 := (f5807 m 3 _ gm rfl)
  have k5819 : H5802 x 0 = H x 0 := ((f5807 x 0 _ gx rfl).trans (f5786 x 0 _ gx rfl))
  have q5820 : H5802 x 0 = (tc : Int) := k5819.trans e0
  have k5821 : H5802 m 5 = H m 5 := ((f5807 m 5 _ gm rfl).trans (f5786 m 5 _ gm rfl))
  have q5822 : H5802 m 5 = (tm : Int) := k5821.trans em
  have k5823 : H5802 x 6 = H x 6 := ((f5807 x 6 _ gx rfl).trans (f5786 x 6 _ gx rfl))
  have q5824 : H5802 x 6 = (cu : Int) := k5823.trans ecu
  have k5825 : H5802 x 7 = H x 7 := ((f5807 x 7 _ gx rfl).trans (f5786 x 7 _ gx rfl))
  have q5826 : H5802 x 7 = (dr : Int) := k5825.trans edr
  have h5827 : CEN T H5802 ce8 e8 d8 := (CEN_fr w5785 gce8 f5807 rfl p5789)
  have h5828 : TP T H5802 tc B := (TP_fr w5785 gtc f5807 rfl (TP_fr hW gtc f5786 rfl htc))
  have h5829 : TM T H5802 tm B := (TM_fr w5785 gtm f5807 rfl (TM_fr hW gtm f5786 rfl htm))
  have h5830 : DD T H5802 cu  := (DD_fr w5785 gcu f5807 rfl (DD_fr hW gcu f5786 rfl hcu))
  have h5831 : DD T H5802 dr  := (DD_fr w5785 gdr f5807 rfl (DD_fr hW gdr f5786 rfl hdr))
  have h5832 : DE T H5802 cu  := (DE_fr w5785 gcu f5807 rfl (DE_fr hW gcu f5786 rfl hdec))
  have h5833 : DE T H5802 dr  := (DE_fr w5785 gdr f5807 rfl (DE_fr hW gdr f5786 rfl hded))
  have h5834 : SP T H5802 x C8 := (SP_fr w5785 gx f5807 rfl (SP_fr hW gx f5786 rfl hsp))
  have h5835 : CU T H5802 cu e8 d8 n8 := (CU_fr w5785 gcu f5807 rfl (CU_fr hW gcu f5786 rfl hcu8))
  have h5836 : CG T H5802 cu (d8 0 3) g8 := (CG_fr w5785 gcu f5807 rfl (CG_fr hW gcu f5786 rfl hcg8))
  have k5837 : H5802 x 3 = H x 3 := ((f5807 x 3 _ gx rfl).trans (f5786 x 3 _ gx rfl))
  have q5838 : H5802 x 3 = (ce8 : Int) := k5837.trans ece8
  have h5839 : HDR T H5802 ce8  := (HDR_fr w5785 gce8 f5807 rfl (HDR_fr hW gce8 f5786 rfl hhdr8))
  have h5840 : MN26 T H5802 m (d8 0 3) g8 := (MN26_fr w5785 gm f5807 rfl (MN26_fr hW gm f5786 rfl hmn8))
  have h5841 : RB T H5802 m e8 d8 := (RB_fr w5785 gm f5807 rfl h5798)
  exact WL.loc hX (by simp) (next T H5802 ⟨⟨w5806, g0, gx, gm, go, by omega, by omega⟩, ⟨_, tc, tm, cu, dr, _, _, _, _, _, ce8, q5820, gtc, h5828, q5822, gtm, h5829, q5824, gcu, q5826, gdr, h5830, h5831, h5832, h5833, h5834, hC1, hC2, h5835, h5841, h5836, h5840, hE, hZ, (by omega), (by assumption), (by omega), (by first | assumption | exact SG_0), q5838, gce8, h5827, h5839, a5812, gm⟩, by omega, by omega⟩ (by omega) (by omega))
