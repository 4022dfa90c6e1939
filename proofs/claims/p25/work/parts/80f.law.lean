/-! THE LAW, GONE ON WITH (own work) -/
set_option maxHeartbeats 4000000 in
theorem wl_c36 {kt : Nat → Option mc_E} {CB SB : Nat} {X : mc_S → Prop} {T : wq_T} {H : wq_H} {Len x m o : Nat} {i : Int} (hX : wlX kt CB SB X) (hb : T.2.1 ≤ CB ∧ T.2.2.1 ≤ SB) (hI : wlJ Len x m o T H) (hL : Len ≤ 3072) (hi : 0 ≤ i ∧ i + 6 ≤ Len) (hb2 : T.2.1 + 20 ≤ CB ∧ T.2.2.1 + 500 ≤ SB)  (next : ∀ T' H', wlJ Len x m o T' H' → T'.2.1 ≤ T.2.1 + 20 → T'.2.2.1 ≤ T.2.2.1 + 500 → WL kt CB SB X 1653 (wlL i x m o) [] T' H') : WL kt CB SB X 1316 (wlL i x m o) [] T H := by
  obtain ⟨⟨hW, g0, gx, gm, go, hK, hr⟩, hXI, hY1, hY2⟩ := hI
  refine wl_of hX hb cL_1316 (rw_aload_n (pc' := 1317) (v := .ref x) rfl rfl rfl ?_)
  obtain ⟨B, tc, tm, cu, dr, C8, e8, d8, n8, g8, ce8, e0, gtc, htc, em, gtm, htm, ecu, gcu, edr, gdr, hcu, hdr, hdec, hded, hsp, hC1, hC2, hcu8, hrb8, hcg8, hmn8, hE, hZ, hn8, hXA, hV8, hSG, ece8, gce8, hcen8, hhdr8, hknn8, -⟩ := hXI
  have hN3 := RB_n3 hrb8
  have hE13 : ∀ h : Nat, h < 24 → 0 ≤ e8 13 h ∧ e8 13 h ≤ 100 := fun k hk => by
    obtain ⟨s, h1, h2, h3⟩ := hcu8.1.2.2.1
    exact ⟨(h3 k hk).1, (h3 k hk).2.1⟩
  have hXW := hXA.1
  have hXN := hXA.2
  have hE0 : e8 0 3 = d8 0 3 ∧ e8 0 0 = d8 0 0 := by
    have h := hE 0 (by decide)
    exact ⟨congrFun h 3, congrFun h 0⟩
  have u5172 := CU_k hcu8
  have h5173 : CY T H cu (d8 0 3) g8 (H cu 17) := ⟨hcg8, rfl⟩
  have h5174 : RY T H m (d8 0 3) g8 (H m 32) := ⟨hmn8, rfl⟩
  obtain ⟨t9, ht9⟩ : ∃ t : Int, t = H x 9 := ⟨_, rfl⟩
  obtain ⟨r5175, q5176, g5177⟩ := hW.ref gx (t' := 6) (n := 13) (j := 2) (p := 0) (q := 0) rfl (by decide) rfl
  refine wl_of hX hb cL_1317 (xc_V (pc' := 1320) (r := x) (as := []) (st := []) (lm_11_171) rfl rfl (Nat.le_of_ble_eq_true rfl) hW gx sh_1 (by decide) rfl (by decide) (u_147 (e := e8) (d := d8) (n := n8) hW gx ecu gcu q5176 g5177 ece8 gce8 (by assumption) (by assumption) (by omega) (by omega) (by omega) (by omega) hcu8 hcen8 hhdr8) (fun R5178 T5179 H5180 p5181 => ?_))
  obtain ⟨e5182, w5184, f5185, z5186, e5183, b5187, p5188⟩ := p5181
  subst e5182
  subst e5183
  show WL _ _ _ _ 1320 [(4, vI i), (3, .ref o), (2, .ref m), (1, .ref x), (0, .ref 0)] [vI z5186] _ H5180
  refine wl_of hX hb cL_1320 (rw_pop (pc' := 1321) rfl rfl ?_)
  refine wl_of hX hb cL_1321 (rw_aload_n (pc' := 1322) (v := .ref m) rfl rfl rfl ?_)
  have k5190 : wKI H5180 m = wKI H m := (wKI_fr hW gm f5185 rfl)
  have k5191 : H5180 x 9 = H x 9 := (f5185 x 9 _ gx rfl)
  have k5192 : H5180 m 6 = H m 6 := (f5185 m 6 _ gm rfl)
  have k5193 : H5180 x 11 = H x 11 := (f5185 x 11 _ gx rfl)
  have k5194 : H5180 m 13 = H m 13 := (f5185 m 13 _ gm rfl)
  have k5195 : H5180 x 8 = H x 8 := (f5185 x 8 _ gx rfl)
  have k5196 : H5180 m 3 = H m 3 := (f5185 m 3 _ gm rfl)
  have h5197 : RB T H5180 m e8 d8 := (RB_fr hW gm f5185 rfl hrb8)
  have h5198 : KNN T H5180 m e8 d8 := (KNN_fr hW gm f5185 rfl hknn8)
  refine wl_of hX hb cL_1322 (xc_V (pc' := 1325) (r := m) (as := []) (st := []) (lm_11_174) rfl rfl (Nat.le_of_ble_eq_true rfl) w5184 gm sh_42 (by decide) rfl (by decide) (u_282 (e := e8) (d := d8) w5184 gm (by omega) (by assumption) (by assumption) (by assumption) (by assumption) h5197 h5198) (fun R5199 T5200 H5201 p5202 => ?_))
  obtain ⟨e5203, w5205, f5206, z5207, e5204, b5208, p5209⟩ := p5202
  subst e5203
  subst e5204
  obtain ⟨a5210, a5211⟩ := p5209
  show WL _ _ _ _ 1325 [(4, vI i), (3, .ref o), (2, .ref m), (1, .ref x), (0, .ref 0)] [vI z5207] _ H5201
  refine wl_of hX hb cL_1325 (rw_pop (pc' := 1326) rfl rfl ?_)
  refine wl_of hX hb cL_1326 (rw_goto (p1 := 1653) (by decide) ?_)
  have k5212 : H5201 x 9 = H5180 x 9 := (f5206 x 9 _ gx rfl)
  have k5213 : H5201 m 6 = H5180 m 6 := (f5206 m 6 _ gm rfl)
  have k5214 : H5201 x 11 = H5180 x 11 := (f5206 x 11 _ gx rfl)
  have k5215 : H5201 m 13 = H5180 m 13 := (f5206 m 13 _ gm rfl)
  have k5216 : H5201 x 8 = H5180 x 8 := (f5206 x 8 _ gx rfl)
  have k5217 : H5201 m 3 = H5180 m 3 := (f5206 m 3 _ gm rfl)
  have k5218 : H5201 x 0 = H x 0 := ((f5206 x 0 _ gx rfl).trans (f5185 x 0 _ gx rfl))
  have q5219 : H5201 x 0 = (tc : Int) := k5218.trans e0
  have k5220 : H5201 m 5 = H m 5 := ((f5206 m 5 _ gm rfl).trans (f5185 m 5 _ gm rfl))
  have q5221 : H5201 m 5 = (tm : Int) := k5220.trans em
  have k5222 : H5201 x 6 = H x 6 := ((f5206 x 6 _ gx rfl).trans (f5185 x 6 _ gx rfl))
  have q5223 : H5201 x 6 = (cu : Int) := k5222.trans ecu
  have k5224 : H5201 x 7 = H x 7 := ((f5206 x 7 _ gx rfl).trans (f5185 x 7 _ gx rfl))
  have q5225 : H5201 x 7 = (dr : Int) := k5224.trans edr
  have h5226 : CEN T H5201 ce8 e8 d8 := (CEN_fr w5184 gce8 f5206 rfl p5188)
  have h5227 : TP T H5201 tc B := (TP_fr w5184 gtc f5206 rfl (TP_fr hW gtc f5185 rfl htc))
  have h5228 : TM T H5201 tm B := (TM_fr w5184 gtm f5206 rfl (TM_fr hW gtm f5185 rfl htm))
  have h5229 : DD T H5201 cu  := (DD_fr w5184 gcu f5206 rfl (DD_fr hW gcu f5185 rfl hcu))
  have h5230 : DD T H5201 dr  := (DD_fr w5184 gdr f5206 rfl (DD_fr hW gdr f5185 rfl hdr))
  have h5231 : DE T H5201 cu  := (DE_fr w5184 gcu f5206 rfl (DE_fr hW gcu f5185 rfl hdec))
  have h5232 : DE T H5201 dr  := (DE_fr w5184 gdr f5206 rfl (DE_fr hW gdr f5185 rfl hded))
  have h5233 : SP T H5201 x C8 := (SP_fr w5184 gx f5206 rfl (SP_fr hW gx f5185 rfl hsp))
  have h5234 : CU T H5201 cu e8 d8 n8 := (CU_fr w5184 gcu f5206 rfl (CU_fr hW gcu f5185 rfl hcu8))
  have h5235 : CY T H5201 cu (d8 0 3) g8 (H cu 17) := (CY_fr w5184 gcu f5206 rfl (CY_fr hW gcu f5185 rfl h5173))
  have k5236 : H5201 x 3 = H x 3 := ((f5206 x 3 _ gx rfl).trans (f5185 x 3 _ gx rfl))
  have q5237 : H5201 x 3 = (ce8 : Int) := k5236.trans ece8
  have h5238 : HDR T H5201 ce8  := (HDR_fr w5184 gce8 f5206 rfl (HDR_fr hW gce8 f5185 rfl hhdr8))
  have h5239 : RY T H5201 m (d8 0 3) g8 (H m 32) := (RY_fr w5184 gm f5206 rfl (RY_fr hW gm f5185 rfl h5174))
  have h5240 : RB T H5201 m e8 d8 := (RB_fr w5184 gm f5206 rfl h5197)
  exact WL.loc hX (by simp) (next T H5201 ⟨⟨w5205, g0, gx, gm, go, by omega, by omega⟩, ⟨_, tc, tm, cu, dr, _, _, _, _, _, ce8, q5219, gtc, h5227, q5221, gtm, h5228, q5223, gcu, q5225, gdr, h5229, h5230, h5231, h5232, h5233, hC1, hC2, h5234, h5240, (h5235).1, (h5239).1, hE, hZ, (by omega), (by assumption), (by omega), (by first | assumption | exact SG_0), q5237, gce8, h5226, h5238, a5211, gm⟩, by omega, by omega⟩ (by omega) (by omega))
set_option maxHeartbeats 4000000 in
theorem wl_c37 {kt : Nat → Option mc_E} {CB SB : Nat} {X : mc_S → Prop} {T : wq_T} {H : wq_H} {Len x m o : Nat} {i : Int} (hX : wlX kt CB SB X) (hb : T.2.1 ≤ CB ∧ T.2.2.1 ≤ SB) (hI : wlJ Len x m o T H) (hL : Len ≤ 3072) (hi : 0 ≤ i ∧ i + 6 ≤ Len) (hb2 : T.2.1 + 20 ≤ CB ∧ T.2.2.1 + 500 ≤ SB)  (next : ∀ T' H', wlJ Len x m o T' H' → T'.2.1 ≤ T.2.1 + 20 → T'.2.2.1 ≤ T.2.2.1 + 500 → WL kt CB SB X 1653 (wlL i x m o) [] T' H') : WL kt CB SB X 1329 (wlL i x m o) [] T H := by
  obtain ⟨⟨hW, g0, gx, gm, go, hK, hr⟩, hXI, hY1, hY2⟩ := hI
  refine wl_of hX hb cL_1329 (rw_aload_n (pc' := 1330) (v := .ref x) rfl rfl rfl ?_)
  refine wl_of hX hb cL_1330 (xc_V (pc' := 1333) (r := x) (as := []) (st := []) (lm_11_175) rfl rfl (Nat.le_of_ble_eq_true rfl) hW gx sh_1 (by decide) rfl (by decide) (s_149 hW gx) (fun R5241 T5242 H5243 p5244 => ?_))
  obtain ⟨e5245, w5247, f5248, z5249, e5246, b5250⟩ := p5244
  subst e5245
  subst e5246
  show WL _ _ _ _ 1333 [(4, vI i), (3, .ref o), (2, .ref m), (1, .ref x), (0, .ref 0)] [vI z5249] _ H5243
  refine wl_of hX hb cL_1333 (rw_pop (pc' := 1334) rfl rfl ?_)
  refine wl_of hX hb cL_1334 (rw_aload_n (pc' := 1335) (v := .ref m) rfl rfl rfl ?_)
  have k5251 : wKI H5243 m = wKI H m := (wKI_fr hW gm f5248 rfl)
  have k5252 : H5243 x 9 = H x 9 := (f5248 x 9 _ gx rfl)
  have k5253 : H5243 m 6 = H m 6 := (f5248 m 6 _ gm rfl)
  have k5254 : H5243 x 11 = H x 11 := (f5248 x 11 _ gx rfl)
  have k5255 : H5243 m 13 = H m 13 := (f5248 m 13 _ gm rfl)
  have k5256 : H5243 x 8 = H x 8 := (f5248 x 8 _ gx rfl)
  have k5257 : H5243 m 3 = H m 3 := (f5248 m 3 _ gm rfl)
  refine wl_of hX hb cL_1335 (xc_V (pc' := 1338) (r := m) (as := []) (st := []) (lm_11_178) rfl rfl (Nat.le_of_ble_eq_true rfl) w5247 gm sh_42 (by decide) rfl (by decide) (s_283 w5247 gm (by omega)) (fun R5258 T5259 H5260 p5261 => ?_))
  obtain ⟨e5262, w5264, f5265, z5267, e5263, b5268, p5266⟩ := p5261
  subst e5262
  subst e5263
  show WL _ _ _ _ 1338 [(4, vI i), (3, .ref o), (2, .ref m), (1, .ref x), (0, .ref 0)] [vI z5267] _ H5260
  refine wl_of hX hb cL_1338 (rw_pop (pc' := 1339) rfl rfl ?_)
  refine wl_of hX hb cL_1339 (rw_goto (p1 := 1653) (by decide) ?_)
  have k5269 : H5260 x 9 = H5243 x 9 := (f5265 x 9 _ gx rfl)
  have k5270 : H5260 m 6 = H5243 m 6 := (f5265 m 6 _ gm rfl)
  have k5271 : H5260 x 11 = H5243 x 11 := (f5265 x 11 _ gx rfl)
  have k5272 : H5260 m 13 = H5243 m 13 := (f5265 m 13 _ gm rfl)
  have k5273 : H5260 x 8 = H5243 x 8 := (f5265 x 8 _ gx rfl)
  have k5274 : H5260 m 3 = H5243 m 3 := (f5265 m 3 _ gm rfl)
  have h5275 : XI T H5260 x m := (XI_fr w5247 gx f5265 rfl (XI_fr hW gx f5248 rfl hXI))
  exact WL.loc hX (by simp) (next T H5260 ⟨⟨w5264, g0, gx, gm, go, by omega, by omega⟩, h5275, by omega, by omega⟩ (by omega) (by omega))
set_option maxHeartbeats 4000000 in
theorem wl_c38 {kt : Nat → Option mc_E} {CB SB : Nat} {X : mc_S → Prop} {T : wq_T} {H : wq_H} {Len x m o : Nat} {i : Int} (hX : wlX kt CB SB X) (hb : T.2.1 ≤ CB ∧ T.2.2.1 ≤ SB) (hI : wlJ Len x m o T H) (hL : Len ≤ 3072) (hi : 0 ≤ i ∧ i + 6 ≤ Len) (hb2 : T.2.1 + 20 ≤ CB ∧ T.2.2.1 + 500 ≤ SB)  (next : ∀ T' H', wlJ Len x m o T' H' → T'.2.1 ≤ T.2.1 + 20 → T'.2.2.1 ≤ T.2.2.1 + 500 → WL kt CB SB X 1653 (wlL i x m o) [] T' H') : WL kt CB SB X 1342 (wlL i x m o) [] T H := by
  obtain ⟨⟨hW, g0, gx, gm, go, hK, hr⟩, hXI, hY1, hY2⟩ := hI
  refine wl_of hX hb cL_1342 (rw_aload_n (pc' := 1343) (v := .ref x) rfl rfl rfl ?_)
  refine wl_of hX hb cL_1343 (rw_aload_n (pc' := 1344) (v := .ref 0) rfl rfl rfl ?_)
  refine wl_of hX hb cL_1344 (rw_iload (pc' := 1346) (z := i) rfl rfl ?_)
  refine wl_of hX hb cL_1346 (rw_iconst (pc' := 1347) rfl ?_)
  refine wl_of hX hb cL_1347 (rw_iadd (pc' := 1348) rfl ?_)
  refine wl_of hX hb cL_1348 (xa_I (so := 0) (pc' := 1349) (a := 0) hW g0 (wsh_s _) (by omega) (wty_s _ _) (by omega) (by omega) rfl (fun b5276 b5277 => ?_))
  refine wl_of hX hb cL_1349 (xc_V (pc' := 1352) (r := x) (as := [vI (H 0 ((i + 1).toNat))]) (st := []) (lm_11_179) rfl rfl (Nat.le_of_ble_eq_true rfl) hW gx sh_1 (by decide) rfl (by decide) (s_152 hW gx ⟨by omega, by omega⟩) (fun R5278 T5279 H5280 p5281 => ?_))
  obtain ⟨e5282, w5284, f5285, z5286, e5283, b5287⟩ := p5281
  subst e5282
  subst e5283
  show WL _ _ _ _ 1352 [(4, vI i), (3, .ref o), (2, .ref m), (1, .ref x), (0, .ref 0)] [vI z5286] _ H5280
  refine wl_of hX hb cL_1352 (rw_pop (pc' := 1353) rfl rfl ?_)
  refine wl_of hX hb cL_1353 (rw_aload_n (pc' := 1354) (v := .ref m) rfl rfl rfl ?_)
  refine wl_of hX hb cL_1354 (rw_aload_n (pc' := 1355) (v := .ref 0) rfl rfl rfl ?_)
  refine wl_of hX hb cL_1355 (rw_iload (pc' := 1357) (z := i) rfl rfl ?_)
  refine wl_of hX hb cL_1357 (rw_iconst (pc' := 1358) rfl ?_)
  refine wl_of hX hb cL_1358 (rw_iadd (pc' := 1359) rfl ?_)
  have k5290 : H5280 0 ((i + 1).toNat) = H 0 ((i + 1).toNat) := (f5285 0 ((i + 1).toNat) _ g0 (wmem_s rfl))
  refine wl_of hX hb cL_1359 (xa_I (so := 0) (pc' := 1360) (a := 0) w5284 g0 (wsh_s _) (by omega) (wty_s _ _) (by omega) (by omega) rfl (fun b5288 b5289 => ?_))
  have k5291 : wKI H5280 m = wKI H m := (wKI_fr hW gm f5285 rfl)
  have k5292 : H5280 x 9 = H x 9 := (f5285 x 9 _ gx rfl)
  have k5293 : H5280 m 6 = H m 6 := (f5285 m 6 _ gm rfl)
  have k5294 : H5280 x 11 = H x 11 := (f5285 x 11 _ gx rfl)
  have k5295 : H5280 m 13 = H m 13 := (f5285 m 13 _ gm rfl)
  have k5296 : H5280 x 8 = H x 8 := (f5285 x 8 _ gx rfl)
  have k5297 : H5280 m 3 = H m 3 := (f5285 m 3 _ gm rfl)
  refine wl_of hX hb cL_1360 (xc_V (pc' := 1363) (r := m) (as := [vI (H5280 0 ((i + 1).toNat))]) (st := []) (lm_11_182) rfl rfl (Nat.le_of_ble_eq_true rfl) w5284 gm sh_42 (by decide) rfl (by decide) (s_284 w5284 gm ⟨by omega, by omega⟩ (by omega)) (fun R5298 T5299 H5300 p5301 => ?_))
  obtain ⟨e5302, w5304, f5305, z5307, e5303, b5308, p5306⟩ := p5301
  subst e5302
  subst e5303
  show WL _ _ _ _ 1363 [(4, vI i), (3, .ref o), (2, .ref m), (1, .ref x), (0, .ref 0)] [vI z5307] _ H5300
  refine wl_of hX hb cL_1363 (rw_pop (pc' := 1364) rfl rfl ?_)
  refine wl_of hX hb cL_1364 (rw_goto (p1 := 1653) (by decide) ?_)
  have k5309 : H5300 x 9 = H5280 x 9 := (f5305 x 9 _ gx rfl)
  have k5310 : H5300 m 6 = H5280 m 6 := (f5305 m 6 _ gm rfl)
  have k5311 : H5300 x 11 = H5280 x 11 := (f5305 x 11 _ gx rfl)
  have k5312 : H5300 m 13 = H5280 m 13 := (f5305 m 13 _ gm rfl)
  have k5313 : H5300 x 8 = H5280 x 8 := (f5305 x 8 _ gx rfl)
  have k5314 : H5300 m 3 = H5280 m 3 := (f5305 m 3 _ gm rfl)
  have h5315 : XI T H5300 x m := (XI_fr w5284 gx f5305 rfl (XI_fr hW gx f5285 rfl hXI))
  exact WL.loc hX (by simp) (next T H5300 ⟨⟨w5304, g0, gx, gm, go, by omega, by omega⟩, h5315, by omega, by omega⟩ (by omega) (by omega))
set_option maxHeartbeats 4000000 in
theorem wl_c39 {kt : Nat → Option mc_E} {CB SB : Nat} {X : mc_S → Prop} {T : wq_T} {H : wq_H} {Len x m o : Nat} {i : Int} (hX : wlX kt CB SB X) (hb : T.2.1 ≤ CB ∧ T.2.2.1 ≤ SB) (hI : wlJ Len x m o T H) (hL : Len ≤ 3072) (hi : 0 ≤ i ∧ i + 6 ≤ Len) (hb2 : T.2.1 + 20 ≤ CB ∧ T.2.2.1 + 500 ≤ SB)  (next : ∀ T' H', wlJ Len x m o T' H' → T'.2.1 ≤ T.2.1 + 20 → T'.2.2.1 ≤ T.2.2.1 + 500 → WL kt CB SB X 1653 (wlL i x m o) [] T' H') : WL kt CB SB X 1367 (wlL i x m o) [] T H := by
  obtain ⟨⟨hW, g0, gx, gm, go, hK, hr⟩, hXI, hY1, hY2⟩ := hI
  refine wl_of hX hb cL_1367 (rw_aload_n (pc' := 1368) (v := .ref x) rfl rfl rfl ?_)
  refine wl_of hX hb cL_1368 (rw_aload_n (pc' := 1369) (v := .ref 0) rfl rfl rfl ?_)
  refine wl_of hX hb cL_1369 (rw_iload (pc' := 1371) (z := i) rfl rfl ?_)
  refine wl_of hX hb cL_1371 (rw_iconst (pc' := 1372) rfl ?_)
  refine wl_of hX hb cL_1372 (rw_iadd (pc' := 1373) rfl ?_)
  refine wl_of hX hb cL_1373 (xa_I (so := 0) (pc' := 1374) (a := 0) hW g0 (wsh_s _) (by omega) (wty_s _ _) (by omega) (by omega) rfl (fun b5316 b5317 => ?_))
  refine wl_of hX hb cL_1374 (rw_aload_n (pc' := 1375) (v := .ref 0) rfl rfl rfl ?_)
  refine wl_of hX hb cL_1375 (rw_iload (pc' := 1377) (z := i) rfl rfl ?_)
  refine wl_of hX hb cL_1377 (rw_iconst (pc' := 1378) rfl ?_)
  refine wl_of hX hb cL_1378 (rw_iadd (pc' := 1379) rfl ?_)
  refine wl_of hX hb cL_1379 (xa_I (so := 0) (pc' := 1380) (a := 0) hW g0 (wsh_s _) (by omega) (wty_s _ _) (by omega) (by omega) rfl (fun b5318 b5319 => ?_))
  obtain ⟨B, tc, tm, cu, dr, C8, e8, d8, n8, g8, ce8, e0, gtc, htc, em, gtm, htm, ecu, gcu, edr, gdr, hcu, hdr, hdec, hded, hsp, hC1, hC2, hcu8, hrb8, hcg8, hmn8, hE, hZ, hn8, hXA, hV8, hSG, ece8, gce8, hcen8, hhdr8, hknn8, -⟩ := hXI
  have hN3 := RB_n3 hrb8
  have hE13 : ∀ h : Nat, h < 24 → 0 ≤ e8 13 h ∧ e8 13 h ≤ 100 := fun k hk => by
    obtain ⟨s, h1, h2, h3⟩ := hcu8.1.2.2.1
    exact ⟨(h3 k hk).1, (h3 k hk).2.1⟩
  have hXW := hXA.1
  have hXN := hXA.2
  have hE0 : e8 0 3 = d8 0 3 ∧ e8 0 0 = d8 0 0 := by
    have h := hE 0 (by decide)
    exact ⟨congrFun h 3, congrFun h 0⟩
  have u5320 := CU_k hcu8
  have h5321 : CY T H cu (d8 0 3) g8 (H cu 17) := ⟨hcg8, rfl⟩
  have h5322 : RY T H m (d8 0 3) g8 (H m 32) := ⟨hmn8, rfl⟩
  obtain ⟨t9, ht9⟩ : ∃ t : Int, t = H x 9 := ⟨_, rfl⟩
  obtain ⟨y9, hy9⟩ : ∃ y : Int, y = H 0 ((i + 2).toNat) := ⟨_, rfl⟩
  refine wl_of hX hb cL_1380 (xc_V (pc' := 1383) (r := x) (as := [vI (H 0 ((i + 1).toNat)), vI (H 0 ((i + 2).toNat))]) (st := []) (lm_11_183) rfl rfl (Nat.le_of_ble_eq_true rfl) hW gx sh_1 (by decide) rfl (by decide) (u_153 (e := e8) (d := d8) (n := n8) (y := ((H 0 ((i + 1).toNat)))) (w := (((H 0 ((i + 2).toNat)) + 1))) hW gx ⟨by omega, by omega⟩ ⟨by omega, by omega⟩ ecu gcu ece8 gce8 (by omega) (by omega) (by omega) (by omega) hcu8 hcen8) (fun R5323 T5324 H5325 p5326 => ?_))
  obtain ⟨e5327, w5329, f5330, z5331, e5328, b5332, p5333⟩ := p5326
  subst e5327
  subst e5328
  rcases p5333 with ⟨a5334, a5335, a5336, a5337⟩ | ⟨a5338, a5339, a5340, a5341, a5342⟩
  · show WL _ _ _ _ 1383 [(4, vI i), (3, .ref o), (2, .ref m), (1, .ref x), (0, .ref 0)] [vI z5331] _ H5325
    have u5343 := CU_k a5336
    refine wl_of hX hb cL_1383 (rw_pop (pc' := 1384) rfl rfl ?_)
    refine wl_of hX hb cL_1384 (rw_aload_n (pc' := 1385) (v := .ref m) rfl rfl rfl ?_)
    refine wl_of hX hb cL_1385 (rw_aload_n (pc' := 1386) (v := .ref 0) rfl rfl rfl ?_)
    refine wl_of hX hb cL_1386 (rw_iload (pc' := 1388) (z := i) rfl rfl ?_)
    refine wl_of hX hb cL_1388 (rw_iconst (pc' := 1389) rfl ?_)
    refine wl_of hX hb cL_1389 (rw_iadd (pc' := 1390) rfl ?_)
    have k5346 : H5325 0 ((i + 1).toNat) = H 0 ((i + 1).toNat) := (f5330 0 ((i + 1).toNat) _ g0 (wmem_s rfl))
    refine wl_of hX hb cL_1390 (xa_I (so := 0) (pc' := 1391) (a := 0) w5329 g0 (wsh_s _) (by omega) (wty_s _ _) (by omega) (by omega) rfl (fun b5344 b5345 => ?_))
    refine wl_of hX hb cL_1391 (rw_aload_n (pc' := 1392) (v := .ref 0) rfl rfl rfl ?_)
    refine wl_of hX hb cL_1392 (rw_iload (pc' := 1394) (z := i) rfl rfl ?_)
    refine wl_of hX hb cL_1394 (rw_iconst (pc' := 1395) rfl ?_)
    refine wl_of hX hb cL_1395 (rw_iadd (pc' := 1396) rfl ?_)
    have k5349 : H5325 0 ((i + 2).toNat) = H 0 ((i + 2).toNat) := (f5330 0 ((i + 2).toNat) _ g0 (wmem_s rfl))
    refine wl_of hX hb cL_1396 (xa_I (so := 0) (pc' := 1397) (a := 0) w5329 g0 (wsh_s _) (by omega) (wty_s _ _) (by omega) (by omega) rfl (fun b5347 b5348 => ?_))
    have k5350 : wKI H5325 m = wKI H m := (wKI_fr hW gm f5330 rfl)
    have k5351 : H5325 x 9 = H x 9 := (f5330 x 9 _ gx rfl)
    have k5352 : H5325 m 6 = H m 6 := (f5330 m 6 _ gm rfl)
    have k5353 : H5325 x 11 = H x 11 := (f5330 x 11 _ gx rfl)
    have k5354 : H5325 m 13 = H m 13 := (f5330 m 13 _ gm rfl)
    have k5355 : H5325 x 8 = H x 8 := (f5330 x 8 _ gx rfl)
    have k5356 : H5325 m 3 = H m 3 := (f5330 m 3 _ gm rfl)
    rw [show H5325 0 ((i + 2).toNat) = H 0 ((i + 2).toNat) by omega]
    rw [show H5325 0 ((i + 1).toNat) = H 0 ((i + 1).toNat) by omega]
    have h5357 : RB T H5325 m e8 d8 := (RB_fr hW gm f5330 rfl hrb8)
    have h5358 : KNN T H5325 m e8 d8 := (KNN_fr hW gm f5330 rfl hknn8)
    refine wl_of hX hb cL_1397 (xc_V (pc' := 1400) (r := m) (as := [vI (H 0 ((i + 1).toNat)), vI (H 0 ((i + 2).toNat))]) (st := []) (lm_11_186) rfl rfl (Nat.le_of_ble_eq_true rfl) w5329 gm sh_42 (by decide) rfl (by decide) (u_285 (e := e8) (d := d8) (y := ((H 0 ((i + 1).toNat)))) (w := (((H 0 ((i + 2).toNat)) + 1))) w5329 gm ⟨by omega, by omega⟩ ⟨by omega, by omega⟩ (by omega) (by omega) (by omega) h5357 h5358) (fun R5359 T5360 H5361 p5362 => ?_))
    obtain ⟨e5363, w5365, f5366, z5367, e5364, b5368, p5369⟩ := p5362
    subst e5363
    subst e5364
    rcases p5369 with ⟨a5370, a5371, a5372, a5373, a5374⟩ | ⟨a5375, a5376, a5377, a5378, a5379⟩
    · show WL _ _ _ _ 1400 [(4, vI i), (3, .ref o), (2, .ref m), (1, .ref x), (0, .ref 0)] [vI z5367] _ H5361
      refine wl_of hX hb cL_1400 (rw_pop (pc' := 1401) rfl rfl ?_)
      refine wl_of hX hb cL_1401 (rw_goto (p1 := 1653) (by decide) ?_)
      have k5380 : H5361 x 9 = H5325 x 9 := (f5366 x 9 _ gx rfl)
      have k5381 : H5361 m 6 = H5325 m 6 := (f5366 m 6 _ gm rfl)
      have k5382 : H5361 x 11 = H5325 x 11 := (f5366 x 11 _ gx rfl)
      have k5383 : H5361 m 13 = H5325 m 13 := (f5366 m 13 _ gm rfl)
      have k5384 : H5361 x 8 = H5325 x 8 := (f5366 x 8 _ gx rfl)
      have k5385 : H5361 m 3 = H5325 m 3 := (f5366 m 3 _ gm rfl)
      have k5386 : H5361 x 0 = H x 0 := ((f5366 x 0 _ gx rfl).trans (f5330 x 0 _ gx rfl))
      have q5387 : H5361 x 0 = (tc : Int) := k5386.trans e0
      have k5388 : H5361 m 5 = H m 5 := ((f5366 m 5 _ gm rfl).trans (f5330 m 5 _ gm rfl))
      have q5389 : H5361 m 5 = (tm : Int) := k5388.trans em
      have k5390 : H5361 x 6 = H x 6 := ((f5366 x 6 _ gx rfl).trans (f5330 x 6 _ gx rfl))
      have q5391 : H5361 x 6 = (cu : Int) := k5390.trans ecu
      have k5392 : H5361 x 7 = H x 7 := ((f5366 x 7 _ gx rfl).trans (f5330 x 7 _ gx rfl))
      have q5393 : H5361 x 7 = (dr : Int) := k5392.trans edr
      have h5394 : CEN T H5361 ce8 e8 d8 := (CEN_fr w5329 gce8 f5366 rfl a5337)
      have h5395 : TP T H5361 tc B := (TP_fr w5329 gtc f5366 rfl (TP_fr hW gtc f5330 rfl htc))
      have h5396 : TM T H5361 tm B := (TM_fr w5329 gtm f5366 rfl (TM_fr hW gtm f5330 rfl htm))
      have h5397 : DD T H5361 cu  := (DD_fr w5329 gcu f5366 rfl (DD_fr hW gcu f5330 rfl hcu))
      have h5398 : DD T H5361 dr  := (DD_fr w5329 gdr f5366 rfl (DD_fr hW gdr f5330 rfl hdr))
      have h5399 : DE T H5361 cu  := (DE_fr w5329 gcu f5366 rfl (DE_fr hW gcu f5330 rfl hdec))
      have h5400 : DE T H5361 dr  := (DE_fr w5329 gdr f5366 rfl (DE_fr hW gdr f5330 rfl hded))
      have h5401 : SP T H5361 x C8 := (SP_fr w5329 gx f5366 rfl (SP_fr hW gx f5330 rfl hsp))
      have h5402 : CU T H5361 cu e8 d8 n8 := (CU_fr w5329 gcu f5366 rfl a5336)
      have h5403 : CY T H5361 cu (d8 0 3) g8 (H cu 17) := (CY_fr w5329 gcu f5366 rfl (CY_fr hW gcu f5330 rfl h5321))
      have k5404 : H5361 x 3 = H x 3 := ((f5366 x 3 _ gx rfl).trans (f5330 x 3 _ gx rfl))
      have q5405 : H5361 x 3 = (ce8 : Int) := k5404.trans ece8
      have h5406 : HDR T H5361 ce8  := (HDR_fr w5329 gce8 f5366 rfl (HDR_fr hW gce8 f5330 rfl hhdr8))
      have h5407 : RY T H5361 m (d8 0 3) g8 (H m 32) := (RY_fr w5329 gm f5366 rfl (RY_fr hW gm f5330 rfl h5322))
      exact WL.loc hX (by simp) (next T H5361 ⟨⟨w5365, g0, gx, gm, go, by omega, by omega⟩, ⟨_, tc, tm, cu, dr, _, _, _, _, _, ce8, q5387, gtc, h5395, q5389, gtm, h5396, q5391, gcu, q5393, gdr, h5397, h5398, h5399, h5400, h5401, hC1, hC2, h5402, a5373, (h5403).1, (h5407).1, hE, hZ, (by omega), (by assumption), (by omega), (by first | assumption | exact SG_0), q5405, gce8, h5394, h5406, a5374, gm⟩, by omega, by omega⟩ (by omega) (by omega))
    · show WL _ _ _ _ 1400 [(4, vI i), (3, .ref o), (2, .ref m), (1, .ref x), (0, .ref 0)] [vI z5367] _ H5361
      refine wl_of hX hb cL_1400 (rw_pop (pc' := 1401) rfl rfl ?_)
      refine wl_of hX hb cL_1401 (rw_goto (p1 := 1653) (by decide) ?_)
      have k5408 : H5361 x 9 = H5325 x 9 := (f5366 x 9 _ gx rfl)
      have k5409 : H5361 m 6 = H5325 m 6 := (f5366 m 6 _ gm rfl)
      have k5410 : H5361 x 11 = H5325 x 11 := (f5366 x 11 _ gx rfl)
      have k5411 : H5361 m 13 = H5325 m 13 := (f5366 m 13 _ gm rfl)
      have k5412 : H5361 x 8 = H5325 x 8 := (f5366 x 8 _ gx rfl)
      have k5413 : H5361 m 3 = H5325 m 3 := (f5366 m 3 _ gm rfl)
      have k5414 : H5361 x 0 = H x 0 := ((f5366 x 0 _ gx rfl).trans (f5330 x 0 _ gx rfl))
      have q5415 : H5361 x 0 = (tc : Int) := k5414.trans e0
      have k5416 : H5361 m 5 = H m 5 := ((f5366 m 5 _ gm rfl).trans (f5330 m 5 _ gm rfl))
      have q5417 : H5361 m 5 = (tm : Int) := k5416.trans em
      have k5418 : H5361 x 6 = H x 6 := ((f5366 x 6 _ gx rfl).trans (f5330 x 6 _ gx rfl))
      have q5419 : H5361 x 6 = (cu : Int) := k5418.trans ecu
      have k5420 : H5361 x 7 = H x 7 := ((f5366 x 7 _ gx rfl).trans (f5330 x 7 _ gx rfl))
      have q5421 : H5361 x 7 = (dr : Int) := k5420.trans edr
      have h5422 : CEN T H5361 ce8 e8 d8 := (CEN_fr w5329 gce8 f5366 rfl a5337)
      have h5423 : TP T H5361 tc B := (TP_fr w5329 gtc f5366 rfl (TP_fr hW gtc f5330 rfl htc))
      have h5424 : TM T H5361 tm B := (TM_fr w5329 gtm f5366 rfl (TM_fr hW gtm f5330 rfl htm))
      have h5425 : DD T H5361 cu  := (DD_fr w5329 gcu f5366 rfl (DD_fr hW gcu f5330 rfl hcu))
      have h5426 : DD T H5361 dr  := (DD_fr w5329 gdr f5366 rfl (DD_fr hW gdr f5330 rfl hdr))
      have h5427 : DE T H5361 cu  := (DE_fr w5329 gcu f5366 rfl (DE_fr hW gcu f5330 rfl hdec))
      have h5428 : DE T H5361 dr  := (DE_fr w5329 gdr f5366 rfl (DE_fr hW gdr f5330 rfl hded))
      have h5429 : SP T H5361 x C8 := (SP_fr w5329 gx f5366 rfl (SP_fr hW gx f5330 rfl hsp))
      have h5430 : CU T H5361 cu e8 d8 n8 := (CU_fr w5329 gcu f5366 rfl a5336)
      have h5431 : CY T H5361 cu (d8 0 3) g8 (H cu 17) := (CY_fr w5329 gcu f5366 rfl (CY_fr hW gcu f5330 rfl h5321))
      have k5432 : H5361 x 3 = H x 3 := ((f5366 x 3 _ gx rfl).trans (f5330 x 3 _ gx rfl))
      have q5433 : H5361 x 3 = (ce8 : Int) := k5432.trans ece8
      have h5434 : HDR T H5361 ce8  := (HDR_fr w5329 gce8 f5366 rfl (HDR_fr hW gce8 f5330 rfl hhdr8))
      exfalso
      omega
  · show WL _ _ _ _ 1383 [(4, vI i), (3, .ref o), (2, .ref m), (1, .ref x), (0, .ref 0)] [vI z5331] _ H5325
    have u5435 := CU_k a5342
    refine wl_of hX hb cL_1383 (rw_pop (pc' := 1384) rfl rfl ?_)
    refine wl_of hX hb cL_1384 (rw_aload_n (pc' := 1385) (v := .ref m) rfl rfl rfl ?_)
    refine wl_of hX hb cL_1385 (rw_aload_n (pc' := 1386) (v := .ref 0) rfl rfl rfl ?_)
    refine wl_of hX hb cL_1386 (rw_iload (pc' := 1388) (z := i) rfl rfl ?_)
    refine wl_of hX hb cL_1388 (rw_iconst (pc' := 1389) rfl ?_)
    refine wl_of hX hb cL_1389 (rw_iadd (pc' := 1390) rfl ?_)
    have k5438 : H5325 0 ((i + 1).toNat) = H 0 ((i + 1).toNat) := (f5330 0 ((i + 1).toNat) _ g0 (wmem_s rfl))
    refine wl_of hX hb cL_1390 (xa_I (so := 0) (pc' := 1391) (a := 0) w5329 g0 (wsh_s _) (by omega) (wty_s _ _) (by omega) (by omega) rfl (fun b5436 b5437 => ?_))
    refine wl_of hX hb cL_1391 (rw_aload_n (pc' := 1392) (v := .ref 0) rfl rfl rfl ?_)
    refine wl_of hX hb cL_1392 (rw_iload (pc' := 1394) (z := i) rfl rfl ?_)
    refine wl_of hX hb cL_1394 (rw_iconst (pc' := 1395) rfl ?_)
    refine wl_of hX hb cL_1395 (rw_iadd (pc' := 1396) rfl ?_)
    have k5441 : H5325 0 ((i + 2).toNat) = H 0 ((i + 2).toNat) := (f5330 0 ((i + 2).toNat) _ g0 (wmem_s rfl))
    refine wl_of hX hb cL_1396 (xa_I (so := 0) (pc' := 1397) (a := 0) w5329 g0 (wsh_s _) (by omega) (wty_s _ _) (by omega) (by omega) rfl (fun b5439 b5440 => ?_))
    have k5442 : wKI H5325 m = wKI H m := (wKI_fr hW gm f5330 rfl)
    have k5443 : H5325 x 9 = H x 9 := (f5330 x 9 _ gx rfl)
    have k5444 : H5325 m 6 = H m 6 := (f5330 m 6 _ gm rfl)
    have k5445 : H5325 x 11 = H x 11 := (f5330 x 11 _ gx rfl)
    have k5446 : H5325 m 13 = H m 13 := (f5330 m 13 _ gm rfl)
    have k5447 : H5325 x 8 = H x 8 := (f5330 x 8 _ gx rfl)
    have k5448 : H5325 m 3 = H m 3 := (f5330 m 3 _ gm rfl)
    rw [show H5325 0 ((i + 2).toNat) = H 0 ((i + 2).toNat) by omega]
    rw [show H5325 0 ((i + 1).toNat) = H 0 ((i + 1).toNat) by omega]
    have h5449 : RB T H5325 m e8 d8 := (RB_fr hW gm f5330 rfl hrb8)
    have h5450 : KNN T H5325 m e8 d8 := (KNN_fr hW gm f5330 rfl hknn8)
    refine wl_of hX hb cL_1397 (xc_V (pc' := 1400) (r := m) (as := [vI (H 0 ((i + 1).toNat)), vI (H 0 ((i + 2).toNat))]) (st := []) (lm_11_186) rfl rfl (Nat.le_of_ble_eq_true rfl) w5329 gm sh_42 (by decide) rfl (by decide) (u_285 (e := e8) (d := d8) (y := ((H 0 ((i + 1).toNat)))) (w := (((H 0 ((i + 2).toNat)) + 1))) w5329 gm ⟨by omega, by omega⟩ ⟨by omega, by omega⟩ (by omega) (by omega) (by omega) h5449 h5450) (fun R5451 T5452 H5453 p5454 => ?_))
    obtain ⟨e5455, w5457, f5458, z5459, e5456, b5460, p5461⟩ := p5454
    subst e5455
    subst e5456
    rcases p5461 with ⟨a5462, a5463, a5464, a5465, a5466⟩ | ⟨a5467, a5468, a5469, a5470, a5471⟩
    · show WL _ _ _ _ 1400 [(4, vI i), (3, .ref o), (2, .ref m), (1, .ref x), (0, .ref 0)] [vI z5459] _ H5453
      refine wl_of hX hb cL_1400 (rw_pop (pc' := 1401) rfl rfl ?_)
      refine wl_of hX hb cL_1401 (rw_goto (p1 := 1653) (by decide) ?_)
      have k5472 : H5453 x 9 = H5325 x 9 := (f5458 x 9 _ gx rfl)
      have k5473 : H5453 m 6 = H5325 m 6 := (f5458 m 6 _ gm rfl)
      have k5474 : H5453 x 11 = H5325 x 11 := (f5458 x 11 _ gx rfl)
      have k5475 : H5453 m 13 = H5325 m 13 := (f5458 m 13 _ gm rfl)
      have k5476 : H5453 x 8 = H5325 x 8 := (f5458 x 8 _ gx rfl)
      have k5477 : H5453 m 3 = H5325 m 3 := (f5458 m 3 _ gm rfl)
      have k5478 : H5453 x 0 = H x 0 := ((f5458 x 0 _ gx rfl).trans (f5330 x 0 _ gx rfl))
      have q5479 : H5453 x 0 = (tc : Int) := k5478.trans e0
      have k5480 : H5453 m 5 = H m 5 := ((f5458 m 5 _ gm rfl).trans (f5330 m 5 _ gm rfl))
      have q5481 : H5453 m 5 = (tm : Int) := k5480.trans em
      have k5482 : H5453 x 6 = H x 6 := ((f5458 x 6 _ gx rfl).trans (f5330 x 6 _ gx rfl))
      have q5483 : H5453 x 6 = (cu : Int) := k5482.trans ecu
      have k5484 : H5453 x 7 = H x 7 := ((f5458 x 7 _ gx rfl).trans (f5330 x 7 _ gx rfl))
      have q5485 : H5453 x 7 = (dr : Int) := k5484.trans edr
      have k5486 : H5453 ce8 9 = H5325 ce8 9 := (f5458 ce8 9 _ gce8 rfl)
      have h5487 : TP T H5453 tc B := (TP_fr w5329 gtc f5458 rfl (TP_fr hW gtc f5330 rfl htc))
      have h5488 : TM T H5453 tm B := (TM_fr w5329 gtm f5458 rfl (TM_fr hW gtm f5330 rfl htm))
      have h5489 : DD T H5453 cu  := (DD_fr w5329 gcu f5458 rfl (DD_fr hW gcu f5330 rfl hcu))
      have h5490 : DD T H5453 dr  := (DD_fr w5329 gdr f5458 rfl (DD_fr hW gdr f5330 rfl hdr))
      have h5491 : DE T H5453 cu  := (DE_fr w5329 gcu f5458 rfl (DE_fr hW gcu f5330 rfl hdec))
      have h5492 : DE T H5453 dr  := (DE_fr w5329 gdr f5458 rfl (DE_fr hW gdr f5330 rfl hded))
      have h5493 : SP T H5453 x C8 := (SP_fr w5329 gx f5458 rfl (SP_fr hW gx f5330 rfl hsp))
      have h5494 : CU T H5453 cu (wq_u e8 13 (((H 0 ((i + 1).toNat)))).toNat (((H 0 ((i + 2).toNat)) + 1))) d8 n8 := (CU_fr w5329 gcu f5458 rfl a5342)
      have h5495 : CY T H5453 cu (d8 0 3) g8 (H cu 17) := (CY_fr w5329 gcu f5458 rfl (CY_fr hW gcu f5330 rfl h5321))
      have k5496 : H5453 x 3 = H x 3 := ((f5458 x 3 _ gx rfl).trans (f5330 x 3 _ gx rfl))
      have q5497 : H5453 x 3 = (ce8 : Int) := k5496.trans ece8
      have h5498 : HDR T H5453 ce8  := (HDR_fr w5329 gce8 f5458 rfl (HDR_fr hW gce8 f5330 rfl hhdr8))
      exfalso
      omega
    · show WL _ _ _ _ 1400 [(4, vI i), (3, .ref o), (2, .ref m), (1, .ref x), (0, .ref 0)] [vI z5459] _ H5453
      refine wl_of hX hb cL_1400 (rw_pop (pc' := 1401) rfl rfl ?_)
      refine wl_of hX hb cL_1401 (rw_goto (p1 := 1653) (by decide) ?_)
      have k5499 : H5453 x 9 = H5325 x 9 := (f5458 x 9 _ gx rfl)
      have k5500 : H5453 m 6 = H5325 m 6 := (f5458 m 6 _ gm rfl)
      have k5501 : H5453 x 11 = H5325 x 11 := (f5458 x 11 _ gx rfl)
      have k5502 : H5453 m 13 = H5325 m 13 := (f5458 m 13 _ gm rfl)
      have k5503 : H5453 x 8 = H5325 x 8 := (f5458 x 8 _ gx rfl)
      have k5504 : H5453 m 3 = H5325 m 3 := (f5458 m 3 _ gm rfl)
      have k5505 : H5453 x 0 = H x 0 := ((f5458 x 0 _ gx rfl).trans (f5330 x 0 _ gx rfl))
      have q5506 : H5453 x 0 = (tc : Int) := k5505.trans e0
      have k5507 : H5453 m 5 = H m 5 := ((f5458 m 5 _ gm rfl).trans (f5330 m 5 _ gm rfl))
      have q5508 : H5453 m 5 = (tm : Int) := k5507.trans em
      have k5509 : H5453 x 6 = H x 6 := ((f5458 x 6 _ gx rfl).trans (f5330 x 6 _ gx rfl))
      have q5510 : H5453 x 6 = (cu : Int) := k5509.trans ecu
      have k5511 : H5453 x 7 = H x 7 := ((f5458 x 7 _ gx rfl).trans (f5330 x 7 _ gx rfl))
      have q5512 : H5453 x 7 = (dr : Int) := k5511.trans edr
      have k5513 : H5453 ce8 9 = H5325 ce8 9 := (f5458 ce8 9 _ gce8 rfl)
      have h5514 : TP T H5453 tc B := (TP_fr w5329 gtc f5458 rfl (TP_fr hW gtc f5330 rfl htc))
      have h5515 : TM T H5453 tm B := (TM_fr w5329 gtm f5458 rfl (TM_fr hW gtm f5330 rfl htm))
      have h5516 : DD T H5453 cu  := (DD_fr w5329 gcu f5458 rfl (DD_fr hW gcu f5330 rfl hcu))
      have h5517 : DD T H5453 dr  := (DD_fr w5329 gdr f5458 rfl (DD_fr hW gdr f5330 rfl hdr))
      have h5518 : DE T H5453 cu  := (DE_fr w5329 gcu f5458 rfl (DE_fr hW gcu f5330 rfl hdec))
      have h5519 : DE T H5453 dr  := (DE_fr w5329 gdr f5458 rfl (DE_fr hW gdr f5330 rfl hded))
      have h5520 : SP T H5453 x C8 := (SP_fr w5329 gx f5458 rfl (SP_fr hW gx f5330 rfl hsp))
      have h5521 : CU T H5453 cu (wq_u e8 13 (((H 0 ((i + 1).toNat)))).toNat (((H 0 ((i + 2).toNat)) + 1))) d8 n8 := (CU_fr w5329 gcu f5458 rfl a5342)
      have h5522 : CY T H5453 cu (d8 0 3) g8 (H cu 17) := (CY_fr w5329 gcu f5458 rfl (CY_fr hW gcu f5330 rfl h5321))
      have k5523 : H5453 x 3 = H x 3 := ((f5458 x 3 _ gx rfl).trans (f5330 x 3 _ gx rfl))
      have q5524 : H5453 x 3 = (ce8 : Int) := k5523.trans ece8
      have h5525 : HDR T H5453 ce8  := (HDR_fr w5329 gce8 f5458 rfl (HDR_fr hW gce8 f5330 rfl hhdr8))
      have h5526 : RY T H5453 m (d8 0 3) g8 (H m 32) := (RY_fr w5329 gm f5458 rfl (RY_fr hW gm f5330 rfl h5322))
      exact WL.loc hX (by simp) (next T H5453 ⟨⟨w5457, g0, gx, gm, go, by omega, by omega⟩, ⟨_, tc, tm, cu, dr, _, _, _, _, _, ce8, q5506, gtc, h5514, q5508, gtm, h5515, q5510, gcu, q5512, gdr, h5516, h5517, h5518, h5519, h5520, hC1, hC2, h5521, a5471, (h5522).1, (h5526).1, (fun i hi => (wq_u_row hi).trans (hE i hi)), (fun h h1 h2 => by rw [wq_u_e2 (fun c => by omega)]; exact hZ h h1 h2), (by omega), (by assumption), (by omega), (by first | assumption | exact SG_0), q5524, gce8, (by first | assumption | exact CEN_new (by omega)), h5525, (by first | assumption | exact KNN_new (by omega)), gm⟩, by omega, by omega⟩ (by omega) (by omega))
set_option maxHeartbeats 4000000 in
theorem wl_c40 {kt : Nat → Option mc_E} {CB SB : Nat} {X : mc_S → Prop} {T : wq_T} {H : wq_H} {Len x m o : Nat} {i : Int} (hX : wlX kt CB SB X) (hb : T.2.1 ≤ CB ∧ T.2.2.1 ≤ SB) (hI : wlJ Len x m o T H) (hL : Len ≤ 3072) (hi : 0 ≤ i ∧ i + 6 ≤ Len) (hb2 : T.2.1 + 20 ≤ CB ∧ T.2.2.1 + 500 ≤ SB)  (next : ∀ T' H', wlJ Len x m o T' H' → T'.2.1 ≤ T.2.1 + 20 → T'.2.2.1 ≤ T.2.2.1 + 500 → WL kt CB SB X 1653 (wlL i x m o) [] T' H') : WL kt CB SB X 1404 (wlL i x m o) [] T H := by
  obtain ⟨⟨hW, g0, gx, gm, go, hK, hr⟩, hXI, hY1, hY2⟩ := hI
  refine wl_of hX hb cL_1404 (rw_aload_n (pc' := 1405) (v := .ref x) rfl rfl rfl ?_)
  refine wl_of hX hb cL_1405 (rw_aload_n (pc' := 1406) (v := .ref 0) rfl rfl rfl ?_)
  refine wl_of hX hb cL_1406 (rw_iload (pc' := 1408) (z := i) rfl rfl ?_)
  refine wl_of hX hb cL_1408 (rw_iconst (pc' := 1409) rfl ?_)
  refine wl_of hX hb cL_1409 (rw_iadd (pc' := 1410) rfl ?_)
  refine wl_of hX hb cL_1410 (xa_I (so := 0) (pc' := 1411) (a := 0) hW g0 (wsh_s _) (by omega) (wty_s _ _) (by omega) (by omega) rfl (fun b5527 b5528 => ?_))
  obtain ⟨B, tc, tm, cu, dr, C8, e8, d8, n8, g8, ce8, e0, gtc, htc, em, gtm, htm, ecu, gcu, edr, gdr, hcu, hdr, hdec, hded, hsp, hC1, hC2, hcu8, hrb8, hcg8, hmn8, hE, hZ, hn8, hXA, hV8, hSG, ece8, gce8, hcen8, hhdr8, hknn8, -⟩ := hXI
  have hN3 := RB_n3 hrb8
  have hE13 : ∀ h : Nat, h < 24 → 0 ≤ e8 13 h ∧ e8 13 h ≤ 100 := fun k hk => by
    obtain ⟨s, h1, h2, h3⟩ := hcu8.1.2.2.1
    exact ⟨(h3 k hk).1, (h3 k hk).2.1⟩
  have hXW := hXA.1
  have hXN := hXA.2
  have hE0 : e8 0 3 = d8 0 3 ∧ e8 0 0 = d8 0 0 := by
    have h := hE 0 (by decide)
    exact ⟨congrFun h 3, congrFun h 0⟩
  have u5529 := CU_k hcu8
  have h5530 : CY T H cu (d8 0 3) g8 (H cu 17) := ⟨hcg8, rfl⟩
  have h5531 : RY T H m (d8 0 3) g8 (H m 32) := ⟨hmn8, rfl⟩
  obtain ⟨t9, ht9⟩ : ∃ t : Int, t = H x 9 := ⟨_, rfl⟩
  obtain ⟨y9, hy9⟩ : ∃ y : Int, y = H 0 ((i + 1).toNat) := ⟨_, rfl⟩
  refine wl_of hX hb cL_1411 (xc_V (pc' := 1414) (r := x) (as := [vI (H 0 ((i + 1).toNat))]) (st := []) (lm_11_187) rfl rfl (Nat.le_of_ble_eq_true rfl) hW gx sh_1 (by decide) rfl (by decide) (u_154 (e := e8) (d := d8) (n := n8) (y := ((H 0 ((i + 1).toNat)))) hW gx ⟨by omega, by omega⟩ ecu gcu ece8 gce8 (by omega) (by omega) (by omega) hcu8 hcen8) (fun R5532 T5533 H5534 p5535 => ?_))
  obtain ⟨e5536, w5538, f5539, z5540, e5537, b5541, p5542⟩ := p5535
  subst e5536
  subst e5537
  rcases p5542 with ⟨a5543, a5544, a5545, a5546, a5547⟩ | ⟨a5548, a5549, a5550, a5551⟩
  · show WL _ _ _ _ 1414 [(4, vI i), (3, .ref o), (2, .ref m), (1, .ref x), (0, .ref 0)] [vI z5540] _ H5534
    have u5552 := CU_k a5547
    refine wl_of hX hb cL_1414 (rw_pop (pc' := 1415) rfl rfl ?_)
    refine wl_of hX hb cL_1415 (rw_aload_n (pc' := 1416) (v := .ref m) rfl rfl rfl ?_)
    refine wl_of hX hb cL_1416 (rw_aload_n (pc' := 1417) (v := .ref 0) rfl rfl rfl ?_)
    refine wl_of hX hb cL_1417 (rw_iload (pc' := 1419) (z := i) rfl rfl ?_)
    refine wl_of hX hb cL_1419 (rw_iconst (pc' := 1420) rfl ?_)
    refine wl_of hX hb cL_1420 (rw_iadd (pc' := 1421) rfl ?_)
    have k5555 : H5534 0 ((i + 1).toNat) = H 0 ((i + 1).toNat) := (f5539 0 ((i + 1).toNat) _ g0 (wmem_s rfl))
    refine wl_of hX hb cL_1421 (xa_I (so := 0) (pc' := 1422) (a := 0) w5538 g0 (wsh_s _) (by omega) (wty_s _ _) (by omega) (by omega) rfl (fun b5553 b5554 => ?_))
    have k5556 : wKI H5534 m = wKI H m := (wKI_fr hW gm f5539 rfl)
    have k5557 : H5534 x 9 = H x 9 := (f5539 x 9 _ gx rfl)
    have k5558 : H5534 m 6 = H m 6 := (f5539 m 6 _ gm rfl)
    have k5559 : H5534 x 11 = H x 11 := (f5539 x 11 _ gx rfl)
    have k5560 : H5534 m 13 = H m 13 := (f5539 m 13 _ gm rfl)
    have k5561 : H5534 x 8 = H x 8 := (f5539 x 8 _ gx rfl)
    have k5562 : H5534 m 3 = H m 3 := (f5539 m 3 _ gm rfl)
    rw [show H5534 0 ((i + 1).toNat) = H 0 ((i + 1).toNat) by omega]
    have h5563 : RB T H5534 m e8 d8 := (RB_fr hW gm f5539 rfl hrb8)
    have h5564 : KNN T H5534 m e8 d8 := (KNN_fr hW gm f5539 rfl hknn8)
    refine wl_of hX hb cL_1422 (xc_V (pc' := 1425) (r := m) (as := [vI (H 0 ((i + 1).toNat))]) (st := []) (lm_11_191) rfl rfl (Nat.le_of_ble_eq_true rfl) w5538 gm sh_42 (by decide) rfl (by decide) (u_286 (e := e8) (d := d8) (y := ((H 0 ((i + 1).toNat)))) w5538 gm ⟨by omega, by omega⟩ (by omega) (by omega) h5563 h5564) (fun R5565 T5566 H5567 p5568 => ?_))
    obtain ⟨e5569, w5571, f5572, z5573, e5570, b5574, p5575⟩ := p5568
    subst e5569
    subst e5570
    rcases p5575 with ⟨a5576, a5577, a5578, a5579, a5580, a5581⟩ | ⟨a5582, a5583, a5584, a5585, a5586⟩
    · show WL _ _ _ _ 1425 [(4, vI i), (3, .ref o), (2, .ref m), (1, .ref x), (0, .ref 0)] [vI z5573] _ H5567
      refine wl_of hX hb cL_1425 (rw_pop (pc' := 1426) rfl rfl ?_)
      refine wl_of hX hb cL_1426 (rw_goto (p1 := 1653) (by decide) ?_)
      have k5587 : H5567 x 9 = H5534 x 9 := (f5572 x 9 _ gx rfl)
      have k5588 : H5567 m 6 = H5534 m 6 := (f5572 m 6 _ gm rfl)
      have k5589 : H5567 x 11 = H5534 x 11 := (f5572 x 11 _ gx rfl)
      have k5590 : H5567 m 13 = H5534 m 13 := (f5572 m 13 _ gm rfl)
      have k5591 : H5567 x 8 = H5534 x 8 := (f5572 x 8 _ gx rfl)
      have k5592 : H5567 m 3 = H5534 m 3 := (f5572 m 3 _ gm rfl)
      have k5593 : H5567 x 0 = H x 0 := ((f5572 x 0 _ gx rfl).trans (f5539 x 0 _ gx rfl))
      have q5594 : H5567 x 0 = (tc : Int) := k5593.trans e0
      have k5595 : H5567 m 5 = H m 5 := ((f5572 m 5 _ gm rfl).trans (f5539 m 5 _ gm rfl))
      have q5596 : H5567 m 5 = (tm : Int) := k5595.trans em
      have k5597 : H5567 x 6 = H x 6 := ((f5572 x 6 _ gx rfl).trans (f5539 x 6 _ gx rfl))
      have q5598 : H5567 x 6 = (cu : Int) := k5597.trans ecu
      have k5599 : H5567 x 7 = H x 7 := ((f5572 x 7 _ gx rfl).trans (f5539 x 7 _ gx rfl))
      have q5600 : H5567 x 7 = (dr : Int) := k5599.trans edr
      have k5601 : H5567 ce8 9 = H5534 ce8 9 := (f5572 ce8 9 _ gce8 rfl)
      have h5602 : TP T H5567 tc B := (TP_fr w5538 gtc f5572 rfl (TP_fr hW gtc f5539 rfl htc))
      have h5603 : TM T H5567 tm B := (TM_fr w5538 gtm f5572 rfl (TM_fr hW gtm f5539 rfl htm))
      have h5604 : DD T H5567 cu  := (DD_fr w5538 gcu f5572 rfl (DD_fr hW gcu f5539 rfl hcu))
      have h5605 : DD T H5567 dr  := (DD_fr w5538 gdr f5572 rfl (DD_fr hW gdr f5539 rfl hdr))
      have h5606 : DE T H5567 cu  := (DE_fr w5538 gcu f5572 rfl (DE_fr hW gcu f5539 rfl hdec))
      have h5607 : DE T H5567 dr  := (DE_fr w5538 gdr f5572 rfl (DE_fr hW gdr f5539 rfl hded))
      have h5608 : SP T H5567 x C8 := (SP_fr w5538 gx f5572 rfl (SP_fr hW gx f5539 rfl hsp))
      have h5609 : CU T H5567 cu (wq_u e8 13 (((H 0 ((i + 1).toNat)))).toNat 0) d8 n8 := (CU_fr w5538 gcu f5572 rfl a5547)
      have h5610 : CY T H5567 cu (d8 0 3) g8 (H cu 17) := (CY_fr w5538 gcu f5572 rfl (CY_fr hW gcu f5539 rfl h5530))
      have k5611 : H5567 x 3 = H x 3 := ((f5572 x 3 _ gx rfl).trans (f5539 x 3 _ gx rfl))
      have q5612 : H5567 x 3 = (ce8 : Int) := k5611.trans ece8
      have h5613 : HDR T H5567 ce8  := (HDR_fr w5538 gce8 f5572 rfl (HDR_fr hW gce8 f5539 rfl hhdr8))
      have h5614 : RY T H5567 m (d8 0 3) g8 (H m 32) := (RY_fr w5538 gm f5572 rfl (RY_fr hW gm f5539 rfl h5531))
      exact WL.loc hX (by simp) (next T H5567 ⟨⟨w5571, g0, gx, gm, go, by omega, by omega⟩, ⟨_, tc, tm, cu, dr, _, _, _, _, _, ce8, q5594, gtc, h5602, q5596, gtm, h5603, q5598, gcu, q5600, gdr, h5604, h5605, h5606, h5607, h5608, hC1, hC2, h5609, a5581, (h5610).1, (h5614).1, (fun i hi => (wq_u_row hi).trans (hE i hi)), (fun h h1 h2 => by rw [wq_u_e2 (fun c => by omega)]; exact hZ h h1 h2), (by omega), (by assumption), (by omega), (by first | assumption | exact SG_0), q5612, gce8, (by first | assumption | exact CEN_new (by omega)), h5613, (by first | assumption | exact KNN_new (by omega)), gm⟩, by omega, by omega⟩ (by omega) (by omega))
    · show WL _ _ _ _ 1425 [(4, vI i), (3, .ref o), (2, .ref m), (1, .ref x), (0, .ref 0)] [vI z5573] _ H5567
      refine wl_of hX hb cL_1425 (rw_pop (pc' := 1426) rfl rfl ?_)
      refine wl_of hX hb cL_1426 (rw_goto (p1 := 1653) (by decide) ?_)
      have k5615 : H5567 x 9 = H5534 x 9 := (f5572 x 9 _ gx rfl)
      have k5616 : H5567 m 6 = H5534 m 6 := (f5572 m 6 _ gm rfl)
      have k5617 : H5567 x 11 = H5534 x 11 := (f5572 x 11 _ gx rfl)
      have k5618 : H5567 m 13 = H5534 m 13 := (f5572 m 13 _ gm rfl)
      have k5619 : H5567 x 8 = H5534 x 8 := (f5572 x 8 _ gx rfl)
      have k5620 : H5567 m 3 = H5534 m 3 := (f5572 m 3 _ gm rfl)
      have k5621 : H5567 x 0 = H x 0 := ((f5572 x 0 _ gx rfl).trans (f5539 x 0 _ gx rfl))
      have q5622 : H5567 x 0 = (tc : Int) := k5621.trans e0
      have k5623 : H5567 m 5 = H m 5 := ((f5572 m 5 _ gm rfl).trans (f5539 m 5 _ gm rfl))
      have q5624 : H5567 m 5 = (tm : Int) := k5623.trans em
      have k5625 : H5567 x 6 = H x 6 := ((f5572 x 6 _ gx rfl).trans (f5539 x 6 _ gx rfl))
      have q5626 : H5567 x 6 = (cu : Int) := k5625.trans ecu
      have k5627 : H5567 x 7 = H x 7 := ((f5572 x 7 _ gx rfl).trans (f5539 x 7 _ gx rfl))
      have q5628 : H5567 x 7 = (dr : Int) := k5627.trans edr
      have k5629 : H5567 ce8 9 = H5534 ce8 9 := (f5572 ce8 9 _ gce8 rfl)
      have h5630 : TP T H5567 tc B := (TP_fr w5538 gtc f5572 rfl (TP_fr hW gtc f5539 rfl htc))
      have h5631 : TM T H5567 tm B := (TM_fr w5538 gtm f5572 rfl (TM_fr hW gtm f5539 rfl htm))
      have h5632 : DD T H5567 cu  := (DD_fr w5538 gcu f5572 rfl (DD_fr hW gcu f5539 rfl hcu))
      have h5633 : DD T H5567 dr  := (DD_fr w5538 gdr f5572 rfl (DD_fr hW gdr f5539 rfl hdr))
      have h5634 : DE T H5567 cu  := (DE_fr w5538 gcu f5572 rfl (DE_fr hW gcu f5539 rfl hdec))
      have h5635 : DE T H5567 dr  := (DE_fr w5538 gdr f5572 rfl (DE_fr hW gdr f5539 rfl hded))
      have h5636 : SP T H5567 x C8 := (SP_fr w5538 gx f5572 rfl (SP_fr hW gx f5539 rfl hsp))
      have h5637 : CU T H5567 cu (wq_u e8 13 (((H 0 ((i + 1).toNat)))).toNat 0) d8 n8 := (CU_fr w5538 gcu f5572 rfl a5547)
      have h5638 : CY T H5567 cu (d8 0 3) g8 (H cu 17) := (CY_fr w5538 gcu f5572 rfl (CY_fr hW gcu f5539 rfl h5530))
      have k5639 : H5567 x 3 = H x 3 := ((f5572 x 3 _ gx rfl).trans (f5539 x 3 _ gx rfl))
      have q5640 : H5567 x 3 = (ce8 : Int) := k5639.trans ece8
      have h5641 : HDR T H5567 ce8  := (HDR_fr w5538 gce8 f5572 rfl (HDR_fr hW gce8 f5539 rfl hhdr8))
      exfalso
      omega
  · show WL _ _ _ _ 1414 [(4, vI i), (3, .ref o), (2, .ref m), (1, .ref x), (0, .ref 0)] [vI z5540] _ H5534
    have u5642 := CU_k a5550
    refine wl_of hX hb cL_1414 (rw_pop (pc' := 1415) rfl rfl ?_)
    refine wl_of hX hb cL_1415 (rw_aload_n (pc' := 1416) (v := .ref m) rfl rfl rfl ?_)
    refine wl_of hX hb cL_1416 (rw_aload_n (pc' := 1417) (v := .ref 0) rfl rfl rfl ?_)
    refine wl_of hX hb cL_1417 (rw_iload (pc' := 1419) (z := i) rfl rfl ?_)
    refine wl_of hX hb cL_1419 (rw_iconst (pc' := 1420) rfl ?_)
    refine wl_of hX hb cL_1420 (rw_iadd (pc' := 1421) rfl ?_)
    have k5645 : H5534 0 ((i + 1).toNat) = H 0 ((i + 1).toNat) := (f5539 0 ((i + 1).toNat) _ g0 (wmem_s rfl))
    refine wl_of hX hb cL_1421 (xa_I (so := 0) (pc' := 1422) (a := 0) w5538 g0 (wsh_s _) (by omega) (wty_s _ _) (by omega) (by omega) rfl (fun b5643 b5644 => ?_))
    have k5646 : wKI H5534 m = wKI H m := (wKI_fr hW gm f5539 rfl)
    have k5647 : H5534 x 9 = H x 9 := (f5539 x 9 _ gx rfl)
    have k5648 : H5534 m 6 = H m 6 := (f5539 m 6 _ gm rfl)
    have k5649 : H5534 x 11 = H x 11 := (f5539 x 11 _ gx rfl)
    have k5650 : H5534 m 13 = H m 13 := (f5539 m 13 _ gm rfl)
    have k5651 : H5534 x 8 = H x 8 := (f5539 x 8 _ gx rfl)
    have k5652 : H5534 m 3 = H m 3 := (f5539 m 3 _ gm rfl)
    rw [show H5534 0 ((i + 1).toNat) = H 0 ((i + 1).toNat) by omega]
    have h5653 : RB T H5534 m e8 d8 := (RB_fr hW gm f5539 rfl hrb8)
    have h5654 : KNN T H5534 m e8 d8 := (KNN_fr hW gm f5539 rfl hknn8)
    refine wl_of hX hb cL_1422 (xc_V (pc' := 1425) (r := m) (as := [vI (H 0 ((i + 1).toNat))]) (st := []) (lm_11_191) rfl rfl (Nat.le_of_ble_eq_true rfl) w5538 gm sh_42 (by decide) rfl (by decide) (u_286 (e := e8) (d := d8) (y := ((H 0 ((i + 1).toNat)))) w5538 gm ⟨by omega, by omega⟩ (by omega) (by omega) h5653 h5654) (fun R5655 T5656 H5657 p5658 => ?_))
    obtain ⟨e5659, w5661, f5662, z5663, e5660, b5664, p5665⟩ := p5658
    subst e5659
    subst e5660
    rcases p5665 with ⟨a5666, a5667, a5668, a5669, a5670, a5671⟩ | ⟨a5672, a5673, a5674, a5675, a5676⟩
    · show WL _ _ _ _ 1425 [(4, vI i), (3, .ref o), (2, .ref m), (1, .ref x), (0, .ref 0)] [vI z5663] _ H5657
      refine wl_of hX hb cL_1425 (rw_pop (pc' := 1426) rfl rfl ?_)
      refine wl_of hX hb cL_1426 (rw_goto (p1 := 1653) (by decide) ?_)
      have k5677 : H5657 x 9 = H5534 x 9 := (f5662 x 9 _ gx rfl)
      have k5678 : H5657 m 6 = H5534 m 6 := (f5662 m 6 _ gm rfl)
      have k5679 : H5657 x 11 = H5534 x 11 := (f5662 x 11 _ gx rfl)
      have k5680 : H5657 m 13 = H5534 m 13 := (f5662 m 13 _ gm rfl)
      have k5681 : H5657 x 8 = H5534 x 8 := (f5662 x 8 _ gx rfl)
      have k5682 : H5657 m 3 = H5534 m 3 := (f5662 m 3 _ gm rfl)
      have k5683 : H5657 x 0 = H x 0 := ((f5662 x 0 _ gx rfl).trans (f5539 x 0 _ gx rfl))
      have q5684 : H5657 x 0 = (tc : Int) := k5683.trans e0
      have k5685 : H5657 m 5 = H m 5 := ((f5662 m 5 _ gm rfl).trans (f5539 m 5 _ gm rfl))
      have q5686 : H5657 m 5 = (tm : Int) := k5685.trans em
      have k5687 : H5657 x 6 = H x 6 := ((f5662 x 6 _ gx rfl).trans (f5539 x 6 _ gx rfl))
      have q5688 : H5657 x 6 = (cu : Int) := k5687.trans ecu
      have k5689 : H5657 x 7 = H x 7 := ((f5662 x 7 _ gx rfl).trans (f5539 x 7 _ gx rfl))
      have q5690 : H5657 x 7 = (dr : Int) := k5689.trans edr
      have h5691 : CEN T H5657 ce8 e8 d8 := (CEN_fr w5538 gce8 f5662 rfl a5551)
      have h5692 : TP T H5657 tc B := (TP_fr w5538 gtc f5662 rfl (TP_fr hW gtc f5539 rfl htc))
      have h5693 : TM T H5657 tm B := (TM_fr w5538 gtm f5662 rfl (TM_fr hW gtm f5539 rfl htm))
      have h5694 : DD T H5657 cu  := (DD_fr w5538 gcu f5662 rfl (DD_fr hW gcu f5539 rfl hcu))
      have h5695 : DD T H5657 dr  := (DD_fr w5538 gdr f5662 rfl (DD_fr hW gdr f5539 rfl hdr))
      have h5696 : DE T H5657 cu  := (DE_fr w5538 gcu f5662 rfl (DE_fr hW gcu f5539 rfl hdec))
      have h5697 : DE T H5657 dr  := (DE_fr w5538 gdr f5662 rfl (DE_fr hW gdr f5539 rfl hded))
      have h5698 : SP T H5657 x C8 := (SP_fr w5538 gx f5662 rfl (SP_fr hW gx f5539 rfl hsp))
      have h5699 : CU T H5657 cu e8 d8 n8 := (CU_fr w5538 gcu f5662 rfl a5550)
      have h5700 : CY T H5657 cu (d8 0 3) g8 (H cu 17) := (CY_fr w5538 gcu f5662 rfl (CY_fr hW gcu f5539 rfl h5530))
      have k5701 : H5657 x 3 = H x 3 := ((f5662 x 3 _ gx rfl).trans (f5539 x 3 _ gx rfl))
      have q5702 : H5657 x 3 = (ce8 : Int) := k5701.trans ece8
      have h5703 : HDR T H5657 ce8  := (HDR_fr w5538 gce8 f5662 rfl (HDR_fr hW gce8 f5539 rfl hhdr8))
      exfalso
      omega
    · show WL _ _ _ _ 1425 [(4, vI i), (3, .ref o), (2, .ref m), (1, .ref x), (0, .ref 0)] [vI z5663] _ H5657
      refine wl_of hX hb cL_1425 (rw_pop (pc' := 1426) rfl rfl ?_)
      refine wl_of hX hb cL_1426 (rw_goto (p1 := 1653) (by decide) ?_)
      have k5704 : H5657 x 9 = H5534 x 9 := (f5662 x 9 _ gx rfl)
      have k5705 : H5657 m 6 = H5534 m 6 := (f5662 m 6 _ gm rfl)
      have k5706 : H5657 x 11 = H5534 x 11 := (f5662 x 11 _ gx rfl)
      have k5707 : H5657 m 13 = H5534 m 13 := (f5662 m 13 _ gm rfl)
      have k5708 : H5657 x 8 = H5534 x 8 := (f5662 x 8 _ gx rfl)
      have k5709 : H5657 m 3 = H5534 m 3 := (f5662 m 3 _ gm rfl)
      have k5710 : H5657 x 0 = H x 0 := ((f5662 x 0 _ gx rfl).trans (f5539 x 0 _ gx rfl))
      have q5711 : H5657 x 0 = (tc : Int) := k5710.trans e0
      have k5712 : H5657 m 5 = H m 5 := ((f5662 m 5 _ gm rfl).trans (f5539 m 5 _ gm rfl))
      have q5713 : H5657 m 5 = (tm : Int) := k5712.trans em
      have k5714 : H5657 x 6 = H x 6 := ((f5662 x 6 _ gx rfl).trans (f5539 x 6 _ gx rfl))
      have q5715 : H5657 x 6 = (cu : Int) := k5714.trans ecu
      have k5716 : H5657 x 7 = H x 7 := ((f5662 x 7 _ gx rfl).trans (f5539 x 7 _ gx rfl))
      have q5717 : H5657 x 7 = (dr : Int) := k5716.trans edr
      have h5718 : CEN T H5657 ce8 e8 d8 := (CEN_fr w5538 gce8 f5662 rfl a5551)
      have h5719 : TP T H5657 tc B := (TP_fr w5538 gtc f5662 rfl (TP_fr hW gtc f5539 rfl htc))
      have h5720 : TM T H5657 tm B := (TM_fr w5538 gtm f5662 rfl (TM_fr hW gtm f5539 rfl htm))
      have h5721 : DD T H5657 cu  := (DD_fr w5538 gcu f5662 rfl (DD_fr hW gcu f5539 rfl hcu))
      have h5722 : DD T H5657 dr  := (DD_fr w5538 gdr f5662 rfl (DD_fr hW gdr f5539 rfl hdr))
      have h5723 : DE T H5657 cu  := (DE_fr w5538 gcu f5662 rfl (DE_fr hW gcu f5539 rfl hdec))
      have h5724 : DE T H5657 dr  := (DE_fr w5538 gdr f5662 rfl (DE_fr hW gdr f5539 rfl hded))
      have h5725 : SP T H5657 x C8 := (SP_fr w5538 gx f5662 rfl (SP_fr hW gx f5539 rfl hsp))
      have h5726 : CU T H5657 cu e8 d8 n8 := (CU_fr w5538 gcu f5662 rfl a5550)
      have h5727 : CY T H5657 cu (d8 0 3) g8 (H cu 17) := (CY_fr w5538 gcu f5662 rfl (CY_fr hW gcu f5539 rfl h5530))
      have k5728 : H5657 x 3 = H x 3 := ((f5662 x 3 _ gx rfl).trans (f5539 x 3 _ gx rfl))
      have q5729 : H5657 x 3 = (ce8 : Int) := k5728.trans ece8
      have h5730 : HDR T H5657 ce8  := (HDR_fr w5538 gce8 f5662 rfl (HDR_fr hW gce8 f5539 rfl hhdr8))
      have h5731 : RY T H5657 m (d8 0 3) g8 (H m 32) := (RY_fr w5538 gm f5662 rfl (RY_fr hW gm f5539 rfl h5531))
      exact WL.loc hX (by simp) (next T H5657 ⟨⟨w5661, g0, gx, gm, go, by omega, by omega⟩, ⟨_, tc, tm, cu, dr, _, _, _, _, _, ce8, q5711, gtc, h5719, q5713, gtm, h5720, q5715, gcu, q5717, gdr, h5721, h5722, h5723, h5724, h5725, hC1, hC2, h5726, a5675, (h5727).1, (h5731).1, hE, hZ, (by omega), (by assumption), (by omega), (by first | assumption | exact SG_0), q5729, gce8, h5718, h5730, a5676, gm⟩, by omega, by omega⟩ (by omega) (by omega))
set_option maxHeartbeats 4000000 in
theorem wl_c41 {kt : Nat → Option mc_E} {CB SB : Nat} {X : mc_S → Prop} {T : wq_T} {H : wq_H} {Len x m o : Nat} {i : Int} (hX : wlX kt CB SB X) (hb : T.2.1 ≤ CB ∧ T.2.2.1 ≤ SB) (hI : wlJ Len x m o T H) (hL : Len ≤ 3072) (hi : 0 ≤ i ∧ i + 6 ≤ Len) (hb2 : T.2.1 + 20 ≤ CB ∧ T.2.2.1 + 500 ≤ SB)  (next : ∀ T' H', wlJ Len x m o T' H' → T'.2.1 ≤ T.2.1 + 20 → T'.2.2.1 ≤ T.2.2.1 + 500 → WL kt CB SB X 1653 (wlL i x m o) [] T' H') : WL kt CB SB X 1429 (wlL i x m o) [] T H := by
  obtain ⟨⟨hW, g0, gx, gm, go, hK, hr⟩, hXI, hY1, hY2⟩ := hI
  refine wl_of hX hb cL_1429 (rw_aload_n (pc' := 1430) (v := .ref x) rfl rfl rfl ?_)
  refine wl_of hX hb cL_1430 (rw_aload_n (pc' := 1431) (v := .ref 0) rfl rfl rfl ?_)
  refine wl_of hX hb cL_1431 (rw_iload (pc' := 1433) (z := i) rfl rfl ?_)
  refine wl_of hX hb cL_1433 (rw_iconst (pc' := 1434) rfl ?_)
  refine wl_of hX hb cL_1434 (rw_iadd (pc' := 1435) rfl ?_)
  refine wl_of hX hb cL_1435 (xa_I (so := 0) (pc' := 1436) (a := 0) hW g0 (wsh_s _) (by omega) (wty_s _ _) (by omega) (by omega) rfl (fun b5732 b5733 => ?_))
  refine wl_of hX hb cL_1436 (xc_V (pc' := 1439) (r := x) (as := [vI (H 0 ((i + 1).toNat))]) (st := []) (lm_11_192) rfl rfl (Nat.le_of_ble_eq_true rfl) hW gx sh_1 (by decide) rfl (by decide) (s_155 hW gx ⟨by omega, by omega⟩) (fun R5734 T5735 H5736 p5737 => ?_))
  obtain ⟨e5738, w5740, f5741, z5742, e5739, b5743⟩ := p5737
  subst e5738
  subst e5739
  show WL _ _ _ _ 1439 [(4, vI i), (3, .ref o), (2, .ref m), (1, .ref x), (0, .ref 0)] [vI z5742] _ H5736
  refine wl_of hX hb cL_1439 (rw_pop (pc' := 1440) rfl rfl ?_)
  refine wl_of hX hb cL_1440 (rw_aload_n (pc' := 1441) (v := .ref m) rfl rfl rfl ?_)
  refine wl_of hX hb cL_1441 (rw_aload_n (pc' := 1442) (v := .ref 0) rfl rfl rfl ?_)
  refine wl_of hX hb cL_1442 (rw_iload (pc' := 1444) (z := i) rfl rfl ?_)
  refine wl_of hX hb cL_1444 (rw_iconst (pc' := 1445) rfl ?_)
  refine wl_of hX hb cL_1445 (rw_iadd (pc' := 1446) rfl ?_)
  have k5746 : H5736 0 ((i + 1).toNat) = H 0 ((i + 1).toNat) := (f5741 0 ((i + 1).toNat) _ g0 (wmem_s rfl))
  refine wl_of hX hb cL_1446 (xa_I (so := 0) (pc' := 1447) (a := 0) w5740 g0 (wsh_s _) (by omega) (wty_s _ _) (by omega) (by omega) rfl (fun b5744 b5745 => ?_))
  have k5747 : wKI H5736 m = wKI H m := (wKI_fr hW gm f5741 rfl)
  have k5748 : H5736 x 9 = H x 9 := (f5741 x 9 _ gx rfl)
  have k5749 : H5736 m 6 = H m 6 := (f5741 m 6 _ gm rfl)
  have k5750 : H5736 x 11 = H x 11 := (f5741 x 11 _ gx rfl)
  have k5751 : H5736 m 13 = H m 13 := (f5741 m 13 _ gm rfl)
  have k5752 : H5736 x 8 = H x 8 := (f5741 x 8 _ gx rfl)
  have k5753 : H5736 m 3 = H m 3 := (f5741 m 3 _ gm rfl)
  refine wl_of hX hb cL_1447 (xc_V (pc' := 1450) (r := m) (as := [vI (H5736 0 ((i + 1).toNat))]) (st := []) (lm_11_195) rfl rfl (Nat.le_of_ble_eq_true rfl) w5740 gm sh_42 (by decide) rfl (by decide) (s_287 w5740 gm ⟨by omega, by omega⟩ (by omega)) (fun R5754 T5755 H5756 p5757 => ?_))
  obtain ⟨e5758, w5760, f5761, z5763, e5759, b5764, p5762⟩ := p5757
  subst e5758
  subst e5759
  show WL _ _ _ _ 1450 [(4, vI i), (3, .ref o), (2, .ref m), (1, .ref x), (0, .ref 0)] [vI z5763] _ H5756
  refine wl_of hX hb cL_1450 (rw_pop (pc' := 1451) rfl rfl ?_)
  refine wl_of hX hb cL_1451 (rw_goto (p1 := 1653) (by decide) ?_)
  have k5765 : H5756 x 9 = H5736 x 9 := (f5761 x 9 _ gx rfl)
  have k5766 : H5756 m 6 = H5736 m 6 := (f5761 m 6 _ gm rfl)
  have k5767 : H5756 x 11 = H5736 x 11 := (f5761 x 11 _ gx rfl)
  have k5768 : H5756 m 13 = H5736 m 13 := (f5761 m 13 _ gm rfl)
  have k5769 : H5756 x 8 = H5736 x 8 := (f5761 x 8 _ gx rfl)
  have k5770 : H5756 m 3 = H5736 m 3 := (f5761 m 3 _ gm rfl)
  have h5771 : XI T H5756 x m := (XI_fr w5740 gx f5761 rfl (XI_fr hW gx f5741 rfl hXI))
  exact WL.loc hX (by simp) (next T H5756 ⟨⟨w5760, g0, gx, gm, go, by omega, by omega⟩, h5771, by omega, by omega⟩ (by omega) (by omega))
set_option maxHeartbeats 4000000 in
theorem wl_c42 {kt : Nat → Option mc_E} {CB SB : Nat} {X : mc_S → Prop} {T : wq_T} {H : wq_H} {Len x m o : Nat} {i : Int} (hX : wlX kt CB SB X) (hb : T.2.1 ≤ CB ∧ T.2.2.1 ≤ SB) (hI : wlJ Len x m o T H) (hL : Len ≤ 3072) (hi : 0 ≤ i ∧ i + 6 ≤ Len) (hb2 : T.2.1 + 20 ≤ CB ∧ T.2.2.1 + 500 ≤ SB)  (next : ∀ T' H', wlJ Len x m o T' H' → T'.2.1 ≤ T.2.1 + 20 → T'.2.2.1 ≤ T.2.2.1 + 500 → WL kt CB SB X 1653 (wlL i x m o) [] T' H') : WL kt CB SB X 1454 (wlL i x m o) [] T H := by
  obtain ⟨⟨hW, g0, gx, gm, go, hK, hr⟩, hXI, hY1, hY2⟩ := hI
  refine wl_of hX hb cL_1454 (rw_aload_n (pc' := 1455) (v := .ref x) rfl rfl rfl ?_)
  obtain ⟨B, tc, tm, cu, dr, C8, e8, d8, n8, g8, ce8, e0, gtc, htc, em, gtm, htm, ecu, gcu, edr, gdr, hcu, hdr, hdec, hded, hsp, hC1, hC2, hcu8, hrb8, hcg8, hmn8, hE, hZ, hn8, hXA, hV8, hSG, ece8, gce8, hcen8, hhdr8, hknn8, -⟩ := hXI
  have hN3 := RB_n3 hrb8
  have hE13 : ∀ h : Nat, h < 24 → 0 ≤ e8 13 h ∧ e8 13 h ≤ 100 := fun k hk => by
    obtain ⟨s, h1, h2, h3⟩ := hcu8.1.2.2.1
    exact ⟨(h3 k hk).1, (h3 k hk).2.1⟩
  have hXW := hXA.1
  have hXN := hXA.2
  have hE0 : e8 0 3 = d8 0 3 ∧ e8 0 0 = d8 0 0 := by
    have h := hE 0 (by decide)
    exact ⟨congrFun h 3, congrFun h 0⟩
  have u5772 := CU_k hcu8
  have h5773 : CY T H cu (d8 0 3) g8 (H cu 17) := ⟨hcg8, rfl⟩
  have h5774 : RY T H m (d8 0 3) g8 (H m 32) := ⟨hmn8, rfl⟩
  obtain ⟨t9, ht9⟩ : ∃ t : Int, t = H x 9 := ⟨_, rfl⟩
  obtain ⟨r5775, q5776, g5777⟩ := hW.ref gx (t' := 6) (n := 13) (j := 2) (p := 0) (q := 0) rfl (by decide) rfl
  refine wl_of hX hb cL_1455 (xc_V (pc' := 1458) (r := x) (as := []) (st := []) (lm_11_196) rfl rfl (Nat.le_of_ble_eq_true rfl) hW gx sh_1 (by decide) rfl (by decide) (u_156 (e := e8) (d := d8) (n := n8) hW gx ecu gcu q5776 g5777 ece8 gce8 (by assumption) (by assumption) (by omega) (by omega) (by omega) (by omega) hcu8 hcen8 hhdr8) (fun R5778 T5779 H5780 p5781 => ?_))
  obtain ⟨e5782, w5784, f5785, z5786, e5783, b5787, p5788⟩ := p5781
  subst e5782
  subst e5783
  show WL _ _ _ _ 1458 [(4, vI i), (3, .ref o), (2, .ref m), (1, .ref x), (0, .ref 0)] [vI z5786] _ H5780
  refine wl_of hX hb cL_1458 (rw_pop (pc' := 1459) rfl rfl ?_)
  refine wl_of hX hb cL_1459 (rw_aload_n (pc' := 1460) (v := .ref m) rfl rfl rfl ?_)
  have k5790 : wKI H5780 m = wKI H m := (wKI_fr hW gm f5785 rfl)
  have k5791 : H5780 x 9 = H x 9 := (f5785 x 9 _ gx rfl)
  have k5792 : H5780 m 6 = H m 6 := (f5785 m 6 _ gm rfl)
  have k5793 : H5780 x 11 = H x 11 := (f5785 x 11 _ gx rfl)
  have k5794 : H5780 m 13 = H m 13 := (f5785 m 13 _ gm rfl)
  have k5795 : H5780 x 8 = H x 8 := (f5785 x 8 _ gx rfl)
  have k5796 : H5780 m 3 = H m 3 := (f5785 m 3 _ gm rfl)
  have h5797 : RB T H5780 m e8 d8 := (RB_fr hW gm f5785 rfl hrb8)
  have h5798 : KNN T H5780 m e8 d8 := (KNN_fr hW gm f5785 rfl hknn8)
  refine wl_of hX hb cL_1460 (xc_V (pc' := 1463) (r := m) (as := []) (st := []) (lm_11_199) rfl rfl (Nat.le_of_ble_eq_true rfl) w5784 gm sh_42 (by decide) rfl (by decide) (u_288 (e := e8) (d := d8) w5784 gm (by omega) (by assumption) (by assumption) (by assumption) (by assumption) h5797 h5798) (fun R5799 T5800 H5801 p5802 => ?_))
  obtain ⟨e5803, w5805, f5806, z5807, e5804, b5808, p5809⟩ := p5802
  subst e5803
  subst e5804
  obtain ⟨a5810, a5811⟩ := p5809
  show WL _ _ _ _ 1463 [(4, vI i), (3, .ref o), (2, .ref m), (1, .ref x), (0, .ref 0)] [vI z5807] _ H5801
  refine wl_of hX hb cL_1463 (rw_pop (pc' := 1464) rfl rfl ?_)
  refine wl_of hX hb cL_1464 (rw_goto (p1 := 1653) (by decide) ?_)
  have k5812 : H5801 x 9 = H5780 x 9 := (f5806 x 9 _ gx rfl)
  have k5813 : H5801 m 6 = H5780 m 6 := (f5806 m 6 _ gm rfl)
  have k5814 : H5801 x 11 = H5780 x 11 := (f5806 x 11 _ gx rfl)
  have k5815 : H5801 m 13 = H5780 m 13 := (f5806 m 13 _ gm rfl)
  have k5816 : H5801 x 8 = H5780 x 8 := (f5806 x 8 _ gx rfl)
  have k5817 : H5801 m 3 = H5780 m 3 := (f5806 m 3 _ gm rfl)
  have k5818 : H5801 x 0 = H x 0 := ((f5806 x 0 _ gx rfl).trans (f5785 x 0 _ gx rfl))
  have q5819 : H5801 x 0 = (tc : Int) := k5818.trans e0
  have k5820 : H5801 m 5 = H m 5 := ((f5806 m 5 _ gm rfl).trans (f5785 m 5 _ gm rfl))
  have q5821 : H5801 m 5 = (tm : Int) := k5820.trans em
  have k5822 : H5801 x 6 = H x 6 := ((f5806 x 6 _ gx rfl).trans (f5785 x 6 _ gx rfl))
  have q5823 : H5801 x 6 = (cu : Int) := k5822.trans ecu
  have k5824 : H5801 x 7 = H x 7 := ((f5806 x 7 _ gx rfl).trans (f5785 x 7 _ gx rfl))
  have q5825 : H5801 x 7 = (dr : Int) := k5824.trans edr
  have h5826 : CEN T H5801 ce8 e8 d8 := (CEN_fr w5784 gce8 f5806 rfl p5788)
  have h5827 : TP T H5801 tc B := (TP_fr w5784 gtc f5806 rfl (TP_fr hW gtc f5785 rfl htc))
  have h5828 : TM T H5801 tm B := (TM_fr w5784 gtm f5806 rfl (TM_fr hW gtm f5785 rfl htm))
  have h5829 : DD T H5801 cu  := (DD_fr w5784 gcu f5806 rfl (DD_fr hW gcu f5785 rfl hcu))
  have h5830 : DD T H5801 dr  := (DD_fr w5784 gdr f5806 rfl (DD_fr hW gdr f5785 rfl hdr))
  have h5831 : DE T H5801 cu  := (DE_fr w5784 gcu f5806 rfl (DE_fr hW gcu f5785 rfl hdec))
  have h5832 : DE T H5801 dr  := (DE_fr w5784 gdr f5806 rfl (DE_fr hW gdr f5785 rfl hded))
  have h5833 : SP T H5801 x C8 := (SP_fr w5784 gx f5806 rfl (SP_fr hW gx f5785 rfl hsp))
  have h5834 : CU T H5801 cu e8 d8 n8 := (CU_fr w5784 gcu f5806 rfl (CU_fr hW gcu f5785 rfl hcu8))
  have h5835 : CG T H5801 cu (d8 0 3) g8 := (CG_fr w5784 gcu f5806 rfl (CG_fr hW gcu f5785 rfl hcg8))
  have k5836 : H5801 x 3 = H x 3 := ((f5806 x 3 _ gx rfl).trans (f5785 x 3 _ gx rfl))
  have q5837 : H5801 x 3 = (ce8 : Int) := k5836.trans ece8
  have h5838 : HDR T H5801 ce8  := (HDR_fr w5784 gce8 f5806 rfl (HDR_fr hW gce8 f5785 rfl hhdr8))
  have h5839 : MN26 T H5801 m (d8 0 3) g8 := (MN26_fr w5784 gm f5806 rfl (MN26_fr hW gm f5785 rfl hmn8))
  have h5840 : RB T H5801 m e8 d8 := (RB_fr w5784 gm f5806 rfl h5797)
  exact WL.loc hX (by simp) (next T H5801 ⟨⟨w5805, g0, gx, gm, go, by omega, by omega⟩, ⟨_, tc, tm, cu, dr, _, _, _, _, _, ce8, q5819, gtc, h5827, q5821, gtm, h5828, q5823, gcu, q5825, gdr, h5829, h5830, h5831, h5832, h5833, hC1, hC2, h5834, h5840, h5835, h5839, hE, hZ, (by omega), (by assumption), (by omega), (by first | assumption | exact SG_0), q5837, gce8, h5826, h5838, a5811, gm⟩, by omega, by omega⟩ (by omega) (by omega))
