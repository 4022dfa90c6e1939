/-! THE LAW, GONE ON WITH (own work) -/
set_option maxHeartbeats 4000000 in
theorem wl_c29 {kt : Nat → Option mc_E} {CB SB : Nat} {X : mc_S → Prop} {T : wq_T} {H : wq_H} {Len x m o : Nat} {i : Int} (hX : wlX kt CB SB X) (hb : T.2.1 ≤ CB ∧ T.2.2.1 ≤ SB) (hI : wlJ Len x m o T H) (hL : Len ≤ 3072) (hi : 0 ≤ i ∧ i + 6 ≤ Len) (hb2 : T.2.1 + 20 ≤ CB ∧ T.2.2.1 + 500 ≤ SB)  (next : ∀ T' H', wlJ Len x m o T' H' → T'.2.1 ≤ T.2.1 + 20 → T'.2.2.1 ≤ T.2.2.1 + 500 → WL kt CB SB X 1653 (wlL i x m o) [] T' H') : WL kt CB SB X 1109 (wlL i x m o) [] T H := by
  obtain ⟨⟨hW, g0, gx, gm, go, hK, hr⟩, hXI, hY1, hY2⟩ := hI
  refine wl_of hX hb cL_1109 (rw_aload_n (pc' := 1110) (v := .ref x) rfl rfl rfl ?_)
  refine wl_of hX hb cL_1110 (rw_aload_n (pc' := 1111) (v := .ref 0) rfl rfl rfl ?_)
  refine wl_of hX hb cL_1111 (rw_iload (pc' := 1113) (z := i) rfl rfl ?_)
  refine wl_of hX hb cL_1113 (rw_iconst (pc' := 1114) rfl ?_)
  refine wl_of hX hb cL_1114 (rw_iadd (pc' := 1115) rfl ?_)
  refine wl_of hX hb cL_1115 (xa_I (so := 0) (pc' := 1116) (a := 0) hW g0 (wsh_s _) (by omega) (wty_s _ _) (by omega) (by omega) rfl (fun b4267 b4268 => ?_))
  refine wl_of hX hb cL_1116 (rw_aload_n (pc' := 1117) (v := .ref 0) rfl rfl rfl ?_)
  refine wl_of hX hb cL_1117 (rw_iload (pc' := 1119) (z := i) rfl rfl ?_)
  refine wl_of hX hb cL_1119 (rw_iconst (pc' := 1120) rfl ?_)
  refine wl_of hX hb cL_1120 (rw_iadd (pc' := 1121) rfl ?_)
  refine wl_of hX hb cL_1121 (xa_I (so := 0) (pc' := 1122) (a := 0) hW g0 (wsh_s _) (by omega) (wty_s _ _) (by omega) (by omega) rfl (fun b4269 b4270 => ?_))
  refine wl_of hX hb cL_1122 (rw_if_eq (p1 := 1129) (p2 := 1125) (by decide) rfl ⟨by omega, by omega⟩ (fun c4271 => ?_) (fun c4271 => ?_))
  · refine wl_of hX hb cL_1129 (rw_iconst (pc' := 1130) rfl ?_)
    obtain ⟨B, tc, tm, cu, dr, C8, e8, d8, n8, g8, ce8, e0, gtc, htc, em, gtm, htm, ecu, gcu, edr, gdr, hcu, hdr, hdec, hded, hsp, hC1, hC2, hcu8, hrb8, hcg8, hmn8, hE, hZ, hn8, hXA, hV8, hSG, ece8, gce8, hcen8, hhdr8, hknn8, -⟩ := hXI
    have hN3 := RB_n3 hrb8
    have hE13 : ∀ h : Nat, h < 24 → 0 ≤ e8 13 h ∧ e8 13 h ≤ 100 := fun k hk => by
      obtain ⟨s, h1, h2, h3⟩ := hcu8.1.2.2.1
      exact ⟨(h3 k hk).1, (h3 k hk).2.1⟩
    have hXW := hXA.1
    have hXN := hXA.2
    have hE0 : e8 0 3 = d8 0 3 ∧ e8 0 0 = d8 0 0 := by
      have h := hE 0 (by decide)
      exact ⟨congrFun h 3, congrFun h 0⟩
    have u4272 := CU_k hcu8
    have h4273 : CY T H cu (d8 0 3) g8 (H cu 17) := ⟨hcg8, rfl⟩
    have h4274 : RY T H m (d8 0 3) g8 (H m 32) := ⟨hmn8, rfl⟩
    obtain ⟨t9, ht9⟩ : ∃ t : Int, t = H x 9 := ⟨_, rfl⟩
    obtain ⟨y9, hy9⟩ : ∃ y : Int, y = 0 := ⟨_, rfl⟩
    obtain ⟨r4275, q4276, g4277⟩ := hW.ref gx (t' := 6) (n := 13) (j := 2) (p := 0) (q := 0) rfl (by decide) rfl
    refine wl_of hX hb cL_1130 (xc_V (pc' := 1133) (r := x) (as := [vI (H 0 ((i + 1).toNat)), vI 0]) (st := []) (lm_11_143) rfl rfl (Nat.le_of_ble_eq_true rfl) hW gx sh_1 (by decide) rfl (by decide) (u_119 (e := e8) (d := d8) (n := n8) hW gx ⟨by omega, by omega⟩ ⟨by decide, by decide⟩ ecu gcu q4276 g4277 ece8 gce8 (by assumption) (by assumption) (by omega) (by omega) (by omega) (by omega) hcu8 hcen8 hhdr8) (fun R4278 T4279 H4280 p4281 => ?_))
    obtain ⟨e4282, w4284, f4285, z4286, e4283, b4287, p4288⟩ := p4281
    subst e4282
    subst e4283
    show WL _ _ _ _ 1133 [(4, vI i), (3, .ref o), (2, .ref m), (1, .ref x), (0, .ref 0)] [vI z4286] _ H4280
    refine wl_of hX hb cL_1133 (rw_pop (pc' := 1134) rfl rfl ?_)
    refine wl_of hX hb cL_1134 (rw_aload_n (pc' := 1135) (v := .ref m) rfl rfl rfl ?_)
    refine wl_of hX hb cL_1135 (rw_aload_n (pc' := 1136) (v := .ref 0) rfl rfl rfl ?_)
    refine wl_of hX hb cL_1136 (rw_iload (pc' := 1138) (z := i) rfl rfl ?_)
    refine wl_of hX hb cL_1138 (rw_iconst (pc' := 1139) rfl ?_)
    refine wl_of hX hb cL_1139 (rw_iadd (pc' := 1140) rfl ?_)
    have k4292 : H4280 0 ((i + 1).toNat) = H 0 ((i + 1).toNat) := (f4285 0 ((i + 1).toNat) _ g0 (wmem_s rfl))
    refine wl_of hX hb cL_1140 (xa_I (so := 0) (pc' := 1141) (a := 0) w4284 g0 (wsh_s _) (by omega) (wty_s _ _) (by omega) (by omega) rfl (fun b4290 b4291 => ?_))
    refine wl_of hX hb cL_1141 (rw_aload_n (pc' := 1142) (v := .ref 0) rfl rfl rfl ?_)
    refine wl_of hX hb cL_1142 (rw_iload (pc' := 1144) (z := i) rfl rfl ?_)
    refine wl_of hX hb cL_1144 (rw_iconst (pc' := 1145) rfl ?_)
    refine wl_of hX hb cL_1145 (rw_iadd (pc' := 1146) rfl ?_)
    have k4295 : H4280 0 ((i + 2).toNat) = H 0 ((i + 2).toNat) := (f4285 0 ((i + 2).toNat) _ g0 (wmem_s rfl))
    refine wl_of hX hb cL_1146 (xa_I (so := 0) (pc' := 1147) (a := 0) w4284 g0 (wsh_s _) (by omega) (wty_s _ _) (by omega) (by omega) rfl (fun b4293 b4294 => ?_))
    refine wl_of hX hb cL_1147 (rw_if_eq (p1 := 1154) (p2 := 1150) (by decide) rfl ⟨by omega, by omega⟩ (fun c4296 => ?_) (fun c4296 => ?_))
    · refine wl_of hX hb cL_1154 (rw_iconst (pc' := 1155) rfl ?_)
      have k4297 : wKI H4280 m = wKI H m := (wKI_fr hW gm f4285 rfl)
      have k4298 : H4280 x 9 = H x 9 := (f4285 x 9 _ gx rfl)
      have k4299 : H4280 m 6 = H m 6 := (f4285 m 6 _ gm rfl)
      have k4300 : H4280 x 11 = H x 11 := (f4285 x 11 _ gx rfl)
      have k4301 : H4280 m 13 = H m 13 := (f4285 m 13 _ gm rfl)
      have k4302 : H4280 x 8 = H x 8 := (f4285 x 8 _ gx rfl)
      have k4303 : H4280 m 3 = H m 3 := (f4285 m 3 _ gm rfl)
      rw [show H4280 0 ((i + 1).toNat) = H 0 ((i + 1).toNat) by omega]
      have h4304 : RB T H4280 m e8 d8 := (RB_fr hW gm f4285 rfl hrb8)
      have h4305 : KNN T H4280 m e8 d8 := (KNN_fr hW gm f4285 rfl hknn8)
      refine wl_of hX hb cL_1155 (xc_V (pc' := 1158) (r := m) (as := [vI (H 0 ((i + 1).toNat)), vI 0]) (st := []) (lm_11_146) rfl rfl (Nat.le_of_ble_eq_true rfl) w4284 gm sh_42 (by decide) rfl (by decide) (u_265 (e := e8) (d := d8) w4284 gm ⟨by omega, by omega⟩ ⟨by decide, by decide⟩ (by omega) (by assumption) (by assumption) (by assumption) (by assumption) h4304 h4305) (fun R4306 T4307 H4308 p4309 => ?_))
      obtain ⟨e4310, w4312, f4313, z4314, e4311, b4315, p4316⟩ := p4309
      subst e4310
      subst e4311
      obtain ⟨a4317, a4318⟩ := p4316
      show WL _ _ _ _ 1158 [(4, vI i), (3, .ref o), (2, .ref m), (1, .ref x), (0, .ref 0)] [vI z4314] _ H4308
      refine wl_of hX hb cL_1158 (rw_pop (pc' := 1159) rfl rfl ?_)
      refine wl_of hX hb cL_1159 (rw_goto (p1 := 1653) (by decide) ?_)
      have k4319 : H4308 x 9 = H4280 x 9 := (f4313 x 9 _ gx rfl)
      have k4320 : H4308 m 6 = H4280 m 6 := (f4313 m 6 _ gm rfl)
      have k4321 : H4308 x 11 = H4280 x 11 := (f4313 x 11 _ gx rfl)
      have k4322 : H4308 m 13 = H4280 m 13 := (f4313 m 13 _ gm rfl)
      have k4323 : H4308 x 8 = H4280 x 8 := (f4313 x 8 _ gx rfl)
      have k4324 : H4308 m 3 = H4280 m 3 := (f4313 m 3 _ gm rfl)
      have k4325 : H4308 x 0 = H x 0 := ((f4313 x 0 _ gx rfl).trans (f4285 x 0 _ gx rfl))
      have q4326 : H4308 x 0 = (tc : Int) := k4325.trans e0
      have k4327 : H4308 m 5 = H m 5 := ((f4313 m 5 _ gm rfl).trans (f4285 m 5 _ gm rfl))
      have q4328 : H4308 m 5 = (tm : Int) := k4327.trans em
      have k4329 : H4308 x 6 = H x 6 := ((f4313 x 6 _ gx rfl).trans (f4285 x 6 _ gx rfl))
      have q4330 : H4308 x 6 = (cu : Int) := k4329.trans ecu
      have k4331 : H4308 x 7 = H x 7 := ((f4313 x 7 _ gx rfl).trans (f4285 x 7 _ gx rfl))
      have q4332 : H4308 x 7 = (dr : Int) := k4331.trans edr
      have h4333 : CEN T H4308 ce8 e8 d8 := (CEN_fr w4284 gce8 f4313 rfl p4288)
      have h4334 : TP T H4308 tc B := (TP_fr w4284 gtc f4313 rfl (TP_fr hW gtc f4285 rfl htc))
      have h4335 : TM T H4308 tm B := (TM_fr w4284 gtm f4313 rfl (TM_fr hW gtm f4285 rfl htm))
      have h4336 : DD T H4308 cu  := (DD_fr w4284 gcu f4313 rfl (DD_fr hW gcu f4285 rfl hcu))
      have h4337 : DD T H4308 dr  := (DD_fr w4284 gdr f4313 rfl (DD_fr hW gdr f4285 rfl hdr))
      have h4338 : DE T H4308 cu  := (DE_fr w4284 gcu f4313 rfl (DE_fr hW gcu f4285 rfl hdec))
      have h4339 : DE T H4308 dr  := (DE_fr w4284 gdr f4313 rfl (DE_fr hW gdr f4285 rfl hded))
      have h4340 : SP T H4308 x C8 := (SP_fr w4284 gx f4313 rfl (SP_fr hW gx f4285 rfl hsp))
      have h4341 : CU T H4308 cu e8 d8 n8 := (CU_fr w4284 gcu f4313 rfl (CU_fr hW gcu f4285 rfl hcu8))
      have h4342 : CY T H4308 cu (d8 0 3) g8 (H cu 17) := (CY_fr w4284 gcu f4313 rfl (CY_fr hW gcu f4285 rfl h4273))
      have k4343 : H4308 x 3 = H x 3 := ((f4313 x 3 _ gx rfl).trans (f4285 x 3 _ gx rfl))
      have q4344 : H4308 x 3 = (ce8 : Int) := k4343.trans ece8
      have h4345 : HDR T H4308 ce8  := (HDR_fr w4284 gce8 f4313 rfl (HDR_fr hW gce8 f4285 rfl hhdr8))
      have h4346 : RY T H4308 m (d8 0 3) g8 (H m 32) := (RY_fr w4284 gm f4313 rfl (RY_fr hW gm f4285 rfl h4274))
      have h4347 : RB T H4308 m e8 d8 := (RB_fr w4284 gm f4313 rfl h4304)
      exact WL.loc hX (by simp) (next T H4308 ⟨⟨w4312, g0, gx, gm, go, by omega, by omega⟩, ⟨_, tc, tm, cu, dr, _, _, _, _, _, ce8, q4326, gtc, h4334, q4328, gtm, h4335, q4330, gcu, q4332, gdr, h4336, h4337, h4338, h4339, h4340, hC1, hC2, h4341, h4347, (h4342).1, (h4346).1, hE, hZ, (by omega), (by assumption), (by omega), (by first | assumption | exact SG_0), q4344, gce8, h4333, h4345, a4318, gm⟩, by omega, by omega⟩ (by omega) (by omega))
    · exfalso
      omega
  · refine wl_of hX hb cL_1125 (rw_iconst (pc' := 1126) rfl ?_)
    refine wl_of hX hb cL_1126 (rw_goto (p1 := 1130) (by decide) ?_)
    obtain ⟨B, tc, tm, cu, dr, C8, e8, d8, n8, g8, ce8, e0, gtc, htc, em, gtm, htm, ecu, gcu, edr, gdr, hcu, hdr, hdec, hded, hsp, hC1, hC2, hcu8, hrb8, hcg8, hmn8, hE, hZ, hn8, hXA, hV8, hSG, ece8, gce8, hcen8, hhdr8, hknn8, -⟩ := hXI
    have hN3 := RB_n3 hrb8
    have hE13 : ∀ h : Nat, h < 24 → 0 ≤ e8 13 h ∧ e8 13 h ≤ 100 := fun k hk => by
      obtain ⟨s, h1, h2, h3⟩ := hcu8.1.2.2.1
      exact ⟨(h3 k hk).1, (h3 k hk).2.1⟩
    have hXW := hXA.1
    have hXN := hXA.2
    have hE0 : e8 0 3 = d8 0 3 ∧ e8 0 0 = d8 0 0 := by
      have h := hE 0 (by decide)
      exact ⟨congrFun h 3, congrFun h 0⟩
    have u4348 := CU_k hcu8
    have h4349 : CY T H cu (d8 0 3) g8 (H cu 17) := ⟨hcg8, rfl⟩
    have h4350 : RY T H m (d8 0 3) g8 (H m 32) := ⟨hmn8, rfl⟩
    obtain ⟨t9, ht9⟩ : ∃ t : Int, t = H x 9 := ⟨_, rfl⟩
    obtain ⟨y9, hy9⟩ : ∃ y : Int, y = 1 := ⟨_, rfl⟩
    obtain ⟨r4351, q4352, g4353⟩ := hW.ref gx (t' := 6) (n := 13) (j := 2) (p := 0) (q := 0) rfl (by decide) rfl
    refine wl_of hX hb cL_1130 (xc_V (pc' := 1133) (r := x) (as := [vI (H 0 ((i + 1).toNat)), vI 1]) (st := []) (lm_11_143) rfl rfl (Nat.le_of_ble_eq_true rfl) hW gx sh_1 (by decide) rfl (by decide) (u_119 (e := e8) (d := d8) (n := n8) hW gx ⟨by omega, by omega⟩ ⟨by decide, by decide⟩ ecu gcu q4352 g4353 ece8 gce8 (by assumption) (by assumption) (by omega) (by omega) (by omega) (by omega) hcu8 hcen8 hhdr8) (fun R4354 T4355 H4356 p4357 => ?_))
    obtain ⟨e4358, w4360, f4361, z4362, e4359, b4363, p4364⟩ := p4357
    subst e4358
    subst e4359
    show WL _ _ _ _ 1133 [(4, vI i), (3, .ref o), (2, .ref m), (1, .ref x), (0, .ref 0)] [vI z4362] _ H4356
    refine wl_of hX hb cL_1133 (rw_pop (pc' := 1134) rfl rfl ?_)
    refine wl_of hX hb cL_1134 (rw_aload_n (pc' := 1135) (v := .ref m) rfl rfl rfl ?_)
    refine wl_of hX hb cL_1135 (rw_aload_n (pc' := 1136) (v := .ref 0) rfl rfl rfl ?_)
    refine wl_of hX hb cL_1136 (rw_iload (pc' := 1138) (z := i) rfl rfl ?_)
    refine wl_of hX hb cL_1138 (rw_iconst (pc' := 1139) rfl ?_)
    refine wl_of hX hb cL_1139 (rw_iadd (pc' := 1140) rfl ?_)
    have k4368 : H4356 0 ((i + 1).toNat) = H 0 ((i + 1).toNat) := (f4361 0 ((i + 1).toNat) _ g0 (wmem_s rfl))
    refine wl_of hX hb cL_1140 (xa_I (so := 0) (pc' := 1141) (a := 0) w4360 g0 (wsh_s _) (by omega) (wty_s _ _) (by omega) (by omega) rfl (fun b4366 b4367 => ?_))
    refine wl_of hX hb cL_1141 (rw_aload_n (pc' := 1142) (v := .ref 0) rfl rfl rfl ?_)
    refine wl_of hX hb cL_1142 (rw_iload (pc' := 1144) (z := i) rfl rfl ?_)
    refine wl_of hX hb cL_1144 (rw_iconst (pc' := 1145) rfl ?_)
    refine wl_of hX hb cL_1145 (rw_iadd (pc' := 1146) rfl ?_)
    have k4371 : H4356 0 ((i + 2).toNat) = H 0 ((i + 2).toNat) := (f4361 0 ((i + 2).toNat) _ g0 (wmem_s rfl))
    refine wl_of hX hb cL_1146 (xa_I (so := 0) (pc' := 1147) (a := 0) w4360 g0 (wsh_s _) (by omega) (wty_s _ _) (by omega) (by omega) rfl (fun b4369 b4370 => ?_))
    refine wl_of hX hb cL_1147 (rw_if_eq (p1 := 1154) (p2 := 1150) (by decide) rfl ⟨by omega, by omega⟩ (fun c4372 => ?_) (fun c4372 => ?_))
    · refine wl_of hX hb cL_1154 (rw_iconst (pc' := 1155) rfl ?_)
      have k4373 : wKI H4356 m = wKI H m := (wKI_fr hW gm f4361 rfl)
      have k4374 : H4356 x 9 = H x 9 := (f4361 x 9 _ gx rfl)
      have k4375 : H4356 m 6 = H m 6 := (f4361 m 6 _ gm rfl)
      have k4376 : H4356 x 11 = H x 11 := (f4361 x 11 _ gx rfl)
      have k4377 : H4356 m 13 = H m 13 := (f4361 m 13 _ gm rfl)
      have k4378 : H4356 x 8 = H x 8 := (f4361 x 8 _ gx rfl)
      have k4379 : H4356 m 3 = H m 3 := (f4361 m 3 _ gm rfl)
      rw [show H4356 0 ((i + 1).toNat) = H 0 ((i + 1).toNat) by omega]
      have h4380 : RB T H4356 m e8 d8 := (RB_fr hW gm f4361 rfl hrb8)
      have h4381 : KNN T H4356 m e8 d8 := (KNN_fr hW gm f4361 rfl hknn8)
      refine wl_of hX hb cL_1155 (xc_V (pc' := 1158) (r := m) (as := [vI (H 0 ((i + 1).toNat)), vI 0]) (st := []) (lm_11_146) rfl rfl (Nat.le_of_ble_eq_true rfl) w4360 gm sh_42 (by decide) rfl (by decide) (u_265 (e := e8) (d := d8) w4360 gm ⟨by omega, by omega⟩ ⟨by decide, by decide⟩ (by omega) (by assumption) (by assumption) (by assumption) (by assumption) h4380 h4381) (fun R4382 T4383 H4384 p4385 => ?_))
      obtain ⟨e4386, w4388, f4389, z4390, e4387, b4391, p4392⟩ := p4385
      subst e4386
      subst e4387
      obtain ⟨a4393, a4394⟩ := p4392
      show WL _ _ _ _ 1158 [(4, vI i), (3, .ref o), (2, .ref m), (1, .ref x), (0, .ref 0)] [vI z4390] _ H4384
      refine wl_of hX hb cL_1158 (rw_pop (pc' := 1159) rfl rfl ?_)
      refine wl_of hX hb cL_1159 (rw_goto (p1 := 1653) (by decide) ?_)
      have k4395 : H4384 x 9 = H4356 x 9 := (f4389 x 9 _ gx rfl)
      have k4396 : H4384 m 6 = H4356 m 6 := (f4389 m 6 _ gm rfl)
      have k4397 : H4384 x 11 = H4356 x 11 := (f4389 x 11 _ gx rfl)
      have k4398 : H4384 m 13 = H4356 m 13 := (f4389 m 13 _ gm rfl)
      have k4399 : H4384 x 8 = H4356 x 8 := (f4389 x 8 _ gx rfl)
      have k4400 : H4384 m 3 = H4356 m 3 := (f4389 m 3 _ gm rfl)
      have k4401 : H4384 x 0 = H x 0 := ((f4389 x 0 _ gx rfl).trans (f4361 x 0 _ gx rfl))
      have q4402 : H4384 x 0 = (tc : Int) := k4401.trans e0
      have k4403 : H4384 m 5 = H m 5 := ((f4389 m 5 _ gm rfl).trans (f4361 m 5 _ gm rfl))
      have q4404 : H4384 m 5 = (tm : Int) := k4403.trans em
      have k4405 : H4384 x 6 = H x 6 := ((f4389 x 6 _ gx rfl).trans (f4361 x 6 _ gx rfl))
      have q4406 : H4384 x 6 = (cu : Int) := k4405.trans ecu
      have k4407 : H4384 x 7 = H x 7 := ((f4389 x 7 _ gx rfl).trans (f4361 x 7 _ gx rfl))
      have q4408 : H4384 x 7 = (dr : Int) := k4407.trans edr
      have h4409 : CEN T H4384 ce8 e8 d8 := (CEN_fr w4360 gce8 f4389 rfl p4364)
      have h4410 : TP T H4384 tc B := (TP_fr w4360 gtc f4389 rfl (TP_fr hW gtc f4361 rfl htc))
      have h4411 : TM T H4384 tm B := (TM_fr w4360 gtm f4389 rfl (TM_fr hW gtm f4361 rfl htm))
      have h4412 : DD T H4384 cu  := (DD_fr w4360 gcu f4389 rfl (DD_fr hW gcu f4361 rfl hcu))
      have h4413 : DD T H4384 dr  := (DD_fr w4360 gdr f4389 rfl (DD_fr hW gdr f4361 rfl hdr))
      have h4414 : DE T H4384 cu  := (DE_fr w4360 gcu f4389 rfl (DE_fr hW gcu f4361 rfl hdec))
      have h4415 : DE T H4384 dr  := (DE_fr w4360 gdr f4389 rfl (DE_fr hW gdr f4361 rfl hded))
      have h4416 : SP T H4384 x C8 := (SP_fr w4360 gx f4389 rfl (SP_fr hW gx f4361 rfl hsp))
      have h4417 : CU T H4384 cu e8 d8 n8 := (CU_fr w4360 gcu f4389 rfl (CU_fr hW gcu f4361 rfl hcu8))
      have h4418 : CY T H4384 cu (d8 0 3) g8 (H cu 17) := (CY_fr w4360 gcu f4389 rfl (CY_fr hW gcu f4361 rfl h4349))
      have k4419 : H4384 x 3 = H x 3 := ((f4389 x 3 _ gx rfl).trans (f4361 x 3 _ gx rfl))
      have q4420 : H4384 x 3 = (ce8 : Int) := k4419.trans ece8
      have h4421 : HDR T H4384 ce8  := (HDR_fr w4360 gce8 f4389 rfl (HDR_fr hW gce8 f4361 rfl hhdr8))
      have h4422 : RY T H4384 m (d8 0 3) g8 (H m 32) := (RY_fr w4360 gm f4389 rfl (RY_fr hW gm f4361 rfl h4350))
      have h4423 : RB T H4384 m e8 d8 := (RB_fr w4360 gm f4389 rfl h4380)
      exact WL.loc hX (by simp) (next T H4384 ⟨⟨w4388, g0, gx, gm, go, by omega, by omega⟩, ⟨_, tc, tm, cu, dr, _, _, _, _, _, ce8, q4402, gtc, h4410, q4404, gtm, h4411, q4406, gcu, q4408, gdr, h4412, h4413, h4414, h4415, h4416, hC1, hC2, h4417, h4423, (h4418).1, (h4422).1, hE, hZ, (by omega), (by assumption), (by omega), (by first | assumption | exact SG_0), q4420, gce8, h4409, h4421, a4394, gm⟩, by omega, by omega⟩ (by omega) (by omega))
    · refine wl_of hX hb cL_1150 (rw_iconst (pc' := 1151) rfl ?_)
      refine wl_of hX hb cL_1151 (rw_goto (p1 := 1155) (by decide) ?_)
      have k4424 : wKI H4356 m = wKI H m := (wKI_fr hW gm f4361 rfl)
      have k4425 : H4356 x 9 = H x 9 := (f4361 x 9 _ gx rfl)
      have k4426 : H4356 m 6 = H m 6 := (f4361 m 6 _ gm rfl)
      have k4427 : H4356 x 11 = H x 11 := (f4361 x 11 _ gx rfl)
      have k4428 : H4356 m 13 = H m 13 := (f4361 m 13 _ gm rfl)
      have k4429 : H4356 x 8 = H x 8 := (f4361 x 8 _ gx rfl)
      have k4430 : H4356 m 3 = H m 3 := (f4361 m 3 _ gm rfl)
      rw [show H4356 0 ((i + 1).toNat) = H 0 ((i + 1).toNat) by omega]
      have h4431 : RB T H4356 m e8 d8 := (RB_fr hW gm f4361 rfl hrb8)
      have h4432 : KNN T H4356 m e8 d8 := (KNN_fr hW gm f4361 rfl hknn8)
      refine wl_of hX hb cL_1155 (xc_V (pc' := 1158) (r := m) (as := [vI (H 0 ((i + 1).toNat)), vI 1]) (st := []) (lm_11_146) rfl rfl (Nat.le_of_ble_eq_true rfl) w4360 gm sh_42 (by decide) rfl (by decide) (u_265 (e := e8) (d := d8) w4360 gm ⟨by omega, by omega⟩ ⟨by decide, by decide⟩ (by omega) (by assumption) (by assumption) (by assumption) (by assumption) h4431 h4432) (fun R4433 T4434 H4435 p4436 => ?_))
      obtain ⟨e4437, w4439, f4440, z4441, e4438, b4442, p4443⟩ := p4436
      subst e4437
      subst e4438
      obtain ⟨a4444, a4445⟩ := p4443
      show WL _ _ _ _ 1158 [(4, vI i), (3, .ref o), (2, .ref m), (1, .ref x), (0, .ref 0)] [vI z4441] _ H4435
      refine wl_of hX hb cL_1158 (rw_pop (pc' := 1159) rfl rfl ?_)
      refine wl_of hX hb cL_1159 (rw_goto (p1 := 1653) (by decide) ?_)
      have k4446 : H4435 x 9 = H4356 x 9 := (f4440 x 9 _ gx rfl)
      have k4447 : H4435 m 6 = H4356 m 6 := (f4440 m 6 _ gm rfl)
      have k4448 : H4435 x 11 = H4356 x 11 := (f4440 x 11 _ gx rfl)
      have k4449 : H4435 m 13 = H4356 m 13 := (f4440 m 13 _ gm rfl)
      have k4450 : H4435 x 8 = H4356 x 8 := (f4440 x 8 _ gx rfl)
      have k4451 : H4435 m 3 = H4356 m 3 := (f4440 m 3 _ gm rfl)
      have k4452 : H4435 x 0 = H x 0 := ((f4440 x 0 _ gx rfl).trans (f4361 x 0 _ gx rfl))
      have q4453 : H4435 x 0 = (tc : Int) := k4452.trans e0
      have k4454 : H4435 m 5 = H m 5 := ((f4440 m 5 _ gm rfl).trans (f4361 m 5 _ gm rfl))
      have q4455 : H4435 m 5 = (tm : Int) := k4454.trans em
      have k4456 : H4435 x 6 = H x 6 := ((f4440 x 6 _ gx rfl).trans (f4361 x 6 _ gx rfl))
      have q4457 : H4435 x 6 = (cu : Int) := k4456.trans ecu
      have k4458 : H4435 x 7 = H x 7 := ((f4440 x 7 _ gx rfl).trans (f4361 x 7 _ gx rfl))
      have q4459 : H4435 x 7 = (dr : Int) := k4458.trans edr
      have h4460 : CEN T H4435 ce8 e8 d8 := (CEN_fr w4360 gce8 f4440 rfl p4364)
      have h4461 : TP T H4435 tc B := (TP_fr w4360 gtc f4440 rfl (TP_fr hW gtc f4361 rfl htc))
      have h4462 : TM T H4435 tm B := (TM_fr w4360 gtm f4440 rfl (TM_fr hW gtm f4361 rfl htm))
      have h4463 : DD T H4435 cu  := (DD_fr w4360 gcu f4440 rfl (DD_fr hW gcu f4361 rfl hcu))
      have h4464 : DD T H4435 dr  := (DD_fr w4360 gdr f4440 rfl (DD_fr hW gdr f4361 rfl hdr))
      have h4465 : DE T H4435 cu  := (DE_fr w4360 gcu f4440 rfl (DE_fr hW gcu f4361 rfl hdec))
      have h4466 : DE T H4435 dr  := (DE_fr w4360 gdr f4440 rfl (DE_fr hW gdr f4361 rfl hded))
      have h4467 : SP T H4435 x C8 := (SP_fr w4360 gx f4440 rfl (SP_fr hW gx f4361 rfl hsp))
      have h4468 : CU T H4435 cu e8 d8 n8 := (CU_fr w4360 gcu f4440 rfl (CU_fr hW gcu f4361 rfl hcu8))
      have h4469 : CY T H4435 cu (d8 0 3) g8 (H cu 17) := (CY_fr w4360 gcu f4440 rfl (CY_fr hW gcu f4361 rfl h4349))
      have k4470 : H4435 x 3 = H x 3 := ((f4440 x 3 _ gx rfl).trans (f4361 x 3 _ gx rfl))
      have q4471 : H4435 x 3 = (ce8 : Int) := k4470.trans ece8
      have h4472 : HDR T H4435 ce8  := (HDR_fr w4360 gce8 f4440 rfl (HDR_fr hW gce8 f4361 rfl hhdr8))
      have h4473 : RY T H4435 m (d8 0 3) g8 (H m 32) := (RY_fr w4360 gm f4440 rfl (RY_fr hW gm f4361 rfl h4350))
      have h4474 : RB T H4435 m e8 d8 := (RB_fr w4360 gm f4440 rfl h4431)
      exact WL.loc hX (by simp) (next T H4435 ⟨⟨w4439, g0, gx, gm, go, by omega, by omega⟩, ⟨_, tc, tm, cu, dr, _, _, _, _, _, ce8, q4453, gtc, h4461, q4455, gtm, h4462, q4457, gcu, q4459, gdr, h4463, h4464, h4465, h4466, h4467, hC1, hC2, h4468, h4474, (h4469).1, (h4473).1, hE, hZ, (by omega), (by assumption), (by omega), (by first | assumption | exact SG_0), q4471, gce8, h4460, h4472, a4445, gm⟩, by omega, by omega⟩ (by omega) (by omega))
set_option maxHeartbeats 4000000 in
theorem wl_c30 {kt : Nat → Option mc_E} {CB SB : Nat} {X : mc_S → Prop} {T : wq_T} {H : wq_H} {Len x m o : Nat} {i : Int} (hX : wlX kt CB SB X) (hb : T.2.1 ≤ CB ∧ T.2.2.1 ≤ SB) (hI : wlJ Len x m o T H) (hL : Len ≤ 3072) (hi : 0 ≤ i ∧ i + 6 ≤ Len) (hb2 : T.2.1 + 20 ≤ CB ∧ T.2.2.1 + 500 ≤ SB)  (next : ∀ T' H', wlJ Len x m o T' H' → T'.2.1 ≤ T.2.1 + 20 → T'.2.2.1 ≤ T.2.2.1 + 500 → WL kt CB SB X 1653 (wlL i x m o) [] T' H') : WL kt CB SB X 1162 (wlL i x m o) [] T H := by
  obtain ⟨⟨hW, g0, gx, gm, go, hK, hr⟩, hXI, hY1, hY2⟩ := hI
  refine wl_of hX hb cL_1162 (rw_aload_n (pc' := 1163) (v := .ref x) rfl rfl rfl ?_)
  obtain ⟨B, tc, tm, cu, dr, C8, e8, d8, n8, g8, ce8, e0, gtc, htc, em, gtm, htm, ecu, gcu, edr, gdr, hcu, hdr, hdec, hded, hsp, hC1, hC2, hcu8, hrb8, hcg8, hmn8, hE, hZ, hn8, hXA, hV8, hSG, ece8, gce8, hcen8, hhdr8, hknn8, -⟩ := hXI
  have hN3 := RB_n3 hrb8
  have hE13 : ∀ h : Nat, h < 24 → 0 ≤ e8 13 h ∧ e8 13 h ≤ 100 := fun k hk => by
    obtain ⟨s, h1, h2, h3⟩ := hcu8.1.2.2.1
    exact ⟨(h3 k hk).1, (h3 k hk).2.1⟩
  have hXW := hXA.1
  have hXN := hXA.2
  have hE0 : e8 0 3 = d8 0 3 ∧ e8 0 0 = d8 0 0 := by
    have h := hE 0 (by decide)
    exact ⟨congrFun h 3, congrFun h 0⟩
  have u4475 := CU_k hcu8
  have h4476 : CY T H cu (d8 0 3) g8 (H cu 17) := ⟨hcg8, rfl⟩
  have h4477 : RY T H m (d8 0 3) g8 (H m 32) := ⟨hmn8, rfl⟩
  obtain ⟨t9, ht9⟩ : ∃ t : Int, t = H x 9 := ⟨_, rfl⟩
  obtain ⟨r4478, q4479, g4480⟩ := hW.ref gx (t' := 6) (n := 13) (j := 2) (p := 0) (q := 0) rfl (by decide) rfl
  refine wl_of hX hb cL_1163 (xc_V (pc' := 1166) (r := x) (as := []) (st := []) (lm_11_147) rfl rfl (Nat.le_of_ble_eq_true rfl) hW gx sh_1 (by decide) rfl (by decide) (u_120 (e := e8) (d := d8) (n := n8) hW gx ecu gcu q4479 g4480 ece8 gce8 (by assumption) (by assumption) (by omega) (by omega) (by omega) (by omega) hcu8 hcen8 hhdr8) (fun R4481 T4482 H4483 p4484 => ?_))
  obtain ⟨e4485, w4487, f4488, z4489, e4486, b4490, p4491⟩ := p4484
  subst e4485
  subst e4486
  show WL _ _ _ _ 1166 [(4, vI i), (3, .ref o), (2, .ref m), (1, .ref x), (0, .ref 0)] [vI z4489] _ H4483
  refine wl_of hX hb cL_1166 (rw_pop (pc' := 1167) rfl rfl ?_)
  refine wl_of hX hb cL_1167 (rw_aload_n (pc' := 1168) (v := .ref m) rfl rfl rfl ?_)
  have k4493 : wKI H4483 m = wKI H m := (wKI_fr hW gm f4488 rfl)
  have k4494 : H4483 x 9 = H x 9 := (f4488 x 9 _ gx rfl)
  have k4495 : H4483 m 6 = H m 6 := (f4488 m 6 _ gm rfl)
  have k4496 : H4483 x 11 = H x 11 := (f4488 x 11 _ gx rfl)
  have k4497 : H4483 m 13 = H m 13 := (f4488 m 13 _ gm rfl)
  have k4498 : H4483 x 8 = H x 8 := (f4488 x 8 _ gx rfl)
  have k4499 : H4483 m 3 = H m 3 := (f4488 m 3 _ gm rfl)
  have h4500 : RB T H4483 m e8 d8 := (RB_fr hW gm f4488 rfl hrb8)
  have h4501 : KNN T H4483 m e8 d8 := (KNN_fr hW gm f4488 rfl hknn8)
  refine wl_of hX hb cL_1168 (xc_V (pc' := 1171) (r := m) (as := []) (st := []) (lm_11_150) rfl rfl (Nat.le_of_ble_eq_true rfl) w4487 gm sh_42 (by decide) rfl (by decide) (u_266 (e := e8) (d := d8) w4487 gm (by omega) (by assumption) (by assumption) (by assumption) (by assumption) h4500 h4501) (fun R4502 T4503 H4504 p4505 => ?_))
  obtain ⟨e4506, w4508, f4509, z4510, e4507, b4511, p4512⟩ := p4505
  subst e4506
  subst e4507
  obtain ⟨a4513, a4514⟩ := p4512
  show WL _ _ _ _ 1171 [(4, vI i), (3, .ref o), (2, .ref m), (1, .ref x), (0, .ref 0)] [vI z4510] _ H4504
  refine wl_of hX hb cL_1171 (rw_pop (pc' := 1172) rfl rfl ?_)
  refine wl_of hX hb cL_1172 (rw_goto (p1 := 1653) (by decide) ?_)
  have k4515 : H4504 x 9 = H4483 x 9 := (f4509 x 9 _ gx rfl)
  have k4516 : H4504 m 6 = H4483 m 6 := (f4509 m 6 _ gm rfl)
  have k4517 : H4504 x 11 = H4483 x 11 := (f4509 x 11 _ gx rfl)
  have k4518 : H4504 m 13 = H4483 m 13 := (f4509 m 13 _ gm rfl)
  have k4519 : H4504 x 8 = H4483 x 8 := (f4509 x 8 _ gx rfl)
  have k4520 : H4504 m 3 = H4483 m 3 := (f4509 m 3 _ gm rfl)
  have k4521 : H4504 x 0 = H x 0 := ((f4509 x 0 _ gx rfl).trans (f4488 x 0 _ gx rfl))
  have q4522 : H4504 x 0 = (tc : Int) := k4521.trans e0
  have k4523 : H4504 m 5 = H m 5 := ((f4509 m 5 _ gm rfl).trans (f4488 m 5 _ gm rfl))
  have q4524 : H4504 m 5 = (tm : Int) := k4523.trans em
  have k4525 : H4504 x 6 = H x 6 := ((f4509 x 6 _ gx rfl).trans (f4488 x 6 _ gx rfl))
  have q4526 : H4504 x 6 = (cu : Int) := k4525.trans ecu
  have k4527 : H4504 x 7 = H x 7 := ((f4509 x 7 _ gx rfl).trans (f4488 x 7 _ gx rfl))
  have q4528 : H4504 x 7 = (dr : Int) := k4527.trans edr
  have h4529 : CEN T H4504 ce8 e8 d8 := (CEN_fr w4487 gce8 f4509 rfl p4491)
  have h4530 : TP T H4504 tc B := (TP_fr w4487 gtc f4509 rfl (TP_fr hW gtc f4488 rfl htc))
  have h4531 : TM T H4504 tm B := (TM_fr w4487 gtm f4509 rfl (TM_fr hW gtm f4488 rfl htm))
  have h4532 : DD T H4504 cu  := (DD_fr w4487 gcu f4509 rfl (DD_fr hW gcu f4488 rfl hcu))
  have h4533 : DD T H4504 dr  := (DD_fr w4487 gdr f4509 rfl (DD_fr hW gdr f4488 rfl hdr))
  have h4534 : DE T H4504 cu  := (DE_fr w4487 gcu f4509 rfl (DE_fr hW gcu f4488 rfl hdec))
  have h4535 : DE T H4504 dr  := (DE_fr w4487 gdr f4509 rfl (DE_fr hW gdr f4488 rfl hded))
  have h4536 : SP T H4504 x C8 := (SP_fr w4487 gx f4509 rfl (SP_fr hW gx f4488 rfl hsp))
  have h4537 : CU T H4504 cu e8 d8 n8 := (CU_fr w4487 gcu f4509 rfl (CU_fr hW gcu f4488 rfl hcu8))
  have h4538 : CY T H4504 cu (d8 0 3) g8 (H cu 17) := (CY_fr w4487 gcu f4509 rfl (CY_fr hW gcu f4488 rfl h4476))
  have k4539 : H4504 x 3 = H x 3 := ((f4509 x 3 _ gx rfl).trans (f4488 x 3 _ gx rfl))
  have q4540 : H4504 x 3 = (ce8 : Int) := k4539.trans ece8
  have h4541 : HDR T H4504 ce8  := (HDR_fr w4487 gce8 f4509 rfl (HDR_fr hW gce8 f4488 rfl hhdr8))
  have h4542 : RY T H4504 m (d8 0 3) g8 (H m 32) := (RY_fr w4487 gm f4509 rfl (RY_fr hW gm f4488 rfl h4477))
  have h4543 : RB T H4504 m e8 d8 := (RB_fr w4487 gm f4509 rfl h4500)
  exact WL.loc hX (by simp) (next T H4504 ⟨⟨w4508, g0, gx, gm, go, by omega, by omega⟩, ⟨_, tc, tm, cu, dr, _, _, _, _, _, ce8, q4522, gtc, h4530, q4524, gtm, h4531, q4526, gcu, q4528, gdr, h4532, h4533, h4534, h4535, h4536, hC1, hC2, h4537, h4543, (h4538).1, (h4542).1, hE, hZ, (by omega), (by assumption), (by omega), (by first | assumption | exact SG_0), q4540, gce8, h4529, h4541, a4514, gm⟩, by omega, by omega⟩ (by omega) (by omega))
set_option maxHeartbeats 4000000 in
theorem wl_c31 {kt : Nat → Option mc_E} {CB SB : Nat} {X : mc_S → Prop} {T : wq_T} {H : wq_H} {Len x m o : Nat} {i : Int} (hX : wlX kt CB SB X) (hb : T.2.1 ≤ CB ∧ T.2.2.1 ≤ SB) (hI : wlJ Len x m o T H) (hL : Len ≤ 3072) (hi : 0 ≤ i ∧ i + 6 ≤ Len) (hb2 : T.2.1 + 20 ≤ CB ∧ T.2.2.1 + 500 ≤ SB)  (next : ∀ T' H', wlJ Len x m o T' H' → T'.2.1 ≤ T.2.1 + 20 → T'.2.2.1 ≤ T.2.2.1 + 500 → WL kt CB SB X 1653 (wlL i x m o) [] T' H') : WL kt CB SB X 1175 (wlL i x m o) [] T H := by
  obtain ⟨⟨hW, g0, gx, gm, go, hK, hr⟩, hXI, hY1, hY2⟩ := hI
  refine wl_of hX hb cL_1175 (rw_aload_n (pc' := 1176) (v := .ref x) rfl rfl rfl ?_)
  refine wl_of hX hb cL_1176 (rw_aload_n (pc' := 1177) (v := .ref 0) rfl rfl rfl ?_)
  refine wl_of hX hb cL_1177 (rw_iload (pc' := 1179) (z := i) rfl rfl ?_)
  refine wl_of hX hb cL_1179 (rw_iconst (pc' := 1180) rfl ?_)
  refine wl_of hX hb cL_1180 (rw_iadd (pc' := 1181) rfl ?_)
  refine wl_of hX hb cL_1181 (xa_I (so := 0) (pc' := 1182) (a := 0) hW g0 (wsh_s _) (by omega) (wty_s _ _) (by omega) (by omega) rfl (fun b4544 b4545 => ?_))
  obtain ⟨B, tc, tm, cu, dr, C8, e8, d8, n8, g8, ce8, e0, gtc, htc, em, gtm, htm, ecu, gcu, edr, gdr, hcu, hdr, hdec, hded, hsp, hC1, hC2, hcu8, hrb8, hcg8, hmn8, hE, hZ, hn8, hXA, hV8, hSG, ece8, gce8, hcen8, hhdr8, hknn8, -⟩ := hXI
  have hN3 := RB_n3 hrb8
  have hE13 : ∀ h : Nat, h < 24 → 0 ≤ e8 13 h ∧ e8 13 h ≤ 100 := fun k hk => by
    obtain ⟨s, h1, h2, h3⟩ := hcu8.1.2.2.1
    exact ⟨(h3 k hk).1, (h3 k hk).2.1⟩
  have hXW := hXA.1
  have hXN := hXA.2
  have hE0 : e8 0 3 = d8 0 3 ∧ e8 0 0 = d8 0 0 := by
    have h := hE 0 (by decide)
    exact ⟨congrFun h 3, congrFun h 0⟩
  have u4546 := CU_k hcu8
  have h4547 : CY T H cu (d8 0 3) g8 (H cu 17) := ⟨hcg8, rfl⟩
  have h4548 : RY T H m (d8 0 3) g8 (H m 32) := ⟨hmn8, rfl⟩
  obtain ⟨t9, ht9⟩ : ∃ t : Int, t = H x 9 := ⟨_, rfl⟩
  obtain ⟨y9, hy9⟩ : ∃ y : Int, y = H 0 ((i + 1).toNat) := ⟨_, rfl⟩
  obtain ⟨r4549, q4550, g4551⟩ := hW.ref gx (t' := 6) (n := 13) (j := 2) (p := 0) (q := 0) rfl (by decide) rfl
  refine wl_of hX hb cL_1182 (xc_V (pc' := 1185) (r := x) (as := [vI (H 0 ((i + 1).toNat))]) (st := []) (lm_11_151) rfl rfl (Nat.le_of_ble_eq_true rfl) hW gx sh_1 (by decide) rfl (by decide) (u_130 (e := e8) (d := d8) (n := n8) hW gx ⟨by omega, by omega⟩ ecu gcu q4550 g4551 ece8 gce8 (by assumption) (by assumption) (by omega) (by omega) (by omega) (by omega) hcu8 hcen8 hhdr8) (fun R4552 T4553 H4554 p4555 => ?_))
  obtain ⟨e4556, w4558, f4559, z4560, e4557, b4561, p4562⟩ := p4555
  subst e4556
  subst e4557
  show WL _ _ _ _ 1185 [(4, vI i), (3, .ref o), (2, .ref m), (1, .ref x), (0, .ref 0)] [vI z4560] _ H4554
  refine wl_of hX hb cL_1185 (rw_pop (pc' := 1186) rfl rfl ?_)
  refine wl_of hX hb cL_1186 (rw_aload_n (pc' := 1187) (v := .ref m) rfl rfl rfl ?_)
  refine wl_of hX hb cL_1187 (rw_aload_n (pc' := 1188) (v := .ref 0) rfl rfl rfl ?_)
  refine wl_of hX hb cL_1188 (rw_iload (pc' := 1190) (z := i) rfl rfl ?_)
  refine wl_of hX hb cL_1190 (rw_iconst (pc' := 1191) rfl ?_)
  refine wl_of hX hb cL_1191 (rw_iadd (pc' := 1192) rfl ?_)
  have k4566 : H4554 0 ((i + 1).toNat) = H 0 ((i + 1).toNat) := (f4559 0 ((i + 1).toNat) _ g0 (wmem_s rfl))
  refine wl_of hX hb cL_1192 (xa_I (so := 0) (pc' := 1193) (a := 0) w4558 g0 (wsh_s _) (by omega) (wty_s _ _) (by omega) (by omega) rfl (fun b4564 b4565 => ?_))
  have k4567 : wKI H4554 m = wKI H m := (wKI_fr hW gm f4559 rfl)
  have k4568 : H4554 x 9 = H x 9 := (f4559 x 9 _ gx rfl)
  have k4569 : H4554 m 6 = H m 6 := (f4559 m 6 _ gm rfl)
  have k4570 : H4554 x 11 = H x 11 := (f4559 x 11 _ gx rfl)
  have k4571 : H4554 m 13 = H m 13 := (f4559 m 13 _ gm rfl)
  have k4572 : H4554 x 8 = H x 8 := (f4559 x 8 _ gx rfl)
  have k4573 : H4554 m 3 = H m 3 := (f4559 m 3 _ gm rfl)
  rw [show H4554 0 ((i + 1).toNat) = H 0 ((i + 1).toNat) by omega]
  have h4574 : RB T H4554 m e8 d8 := (RB_fr hW gm f4559 rfl hrb8)
  have h4575 : KNN T H4554 m e8 d8 := (KNN_fr hW gm f4559 rfl hknn8)
  refine wl_of hX hb cL_1193 (xc_V (pc' := 1196) (r := m) (as := [vI (H 0 ((i + 1).toNat))]) (st := []) (lm_11_154) rfl rfl (Nat.le_of_ble_eq_true rfl) w4558 gm sh_42 (by decide) rfl (by decide) (u_271 (e := e8) (d := d8) w4558 gm ⟨by omega, by omega⟩ (by omega) (by assumption) (by assumption) (by assumption) (by assumption) h4574 h4575) (fun R4576 T4577 H4578 p4579 => ?_))
  obtain ⟨e4580, w4582, f4583, z4584, e4581, b4585, p4586⟩ := p4579
  subst e4580
  subst e4581
  obtain ⟨a4587, a4588⟩ := p4586
  show WL _ _ _ _ 1196 [(4, vI i), (3, .ref o), (2, .ref m), (1, .ref x), (0, .ref 0)] [vI z4584] _ H4578
  refine wl_of hX hb cL_1196 (rw_pop (pc' := 1197) rfl rfl ?_)
  refine wl_of hX hb cL_1197 (rw_goto (p1 := 1653) (by decide) ?_)
  have k4589 : H4578 x 9 = H4554 x 9 := (f4583 x 9 _ gx rfl)
  have k4590 : H4578 m 6 = H4554 m 6 := (f4583 m 6 _ gm rfl)
  have k4591 : H4578 x 11 = H4554 x 11 := (f4583 x 11 _ gx rfl)
  have k4592 : H4578 m 13 = H4554 m 13 := (f4583 m 13 _ gm rfl)
  have k4593 : H4578 x 8 = H4554 x 8 := (f4583 x 8 _ gx rfl)
  have k4594 : H4578 m 3 = H4554 m 3 := (f4583 m 3 _ gm rfl)
  have k4595 : H4578 x 0 = H x 0 := ((f4583 x 0 _ gx rfl).trans (f4559 x 0 _ gx rfl))
  have q4596 : H4578 x 0 = (tc : Int) := k4595.trans e0
  have k4597 : H4578 m 5 = H m 5 := ((f4583 m 5 _ gm rfl).trans (f4559 m 5 _ gm rfl))
  have q4598 : H4578 m 5 = (tm : Int) := k4597.trans em
  have k4599 : H4578 x 6 = H x 6 := ((f4583 x 6 _ gx rfl).trans (f4559 x 6 _ gx rfl))
  have q4600 : H4578 x 6 = (cu : Int) := k4599.trans ecu
  have k4601 : H4578 x 7 = H x 7 := ((f4583 x 7 _ gx rfl).trans (f4559 x 7 _ gx rfl))
  have q4602 : H4578 x 7 = (dr : Int) := k4601.trans edr
  have h4603 : CEN T H4578 ce8 e8 d8 := (CEN_fr w4558 gce8 f4583 rfl p4562)
  have h4604 : TP T H4578 tc B := (TP_fr w4558 gtc f4583 rfl (TP_fr hW gtc f4559 rfl htc))
  have h4605 : TM T H4578 tm B := (TM_fr w4558 gtm f4583 rfl (TM_fr hW gtm f4559 rfl htm))
  have h4606 : DD T H4578 cu  := (DD_fr w4558 gcu f4583 rfl (DD_fr hW gcu f4559 rfl hcu))
  have h4607 : DD T H4578 dr  := (DD_fr w4558 gdr f4583 rfl (DD_fr hW gdr f4559 rfl hdr))
  have h4608 : DE T H4578 cu  := (DE_fr w4558 gcu f4583 rfl (DE_fr hW gcu f4559 rfl hdec))
  have h4609 : DE T H4578 dr  := (DE_fr w4558 gdr f4583 rfl (DE_fr hW gdr f4559 rfl hded))
  have h4610 : SP T H4578 x C8 := (SP_fr w4558 gx f4583 rfl (SP_fr hW gx f4559 rfl hsp))
  have h4611 : CU T H4578 cu e8 d8 n8 := (CU_fr w4558 gcu f4583 rfl (CU_fr hW gcu f4559 rfl hcu8))
  have h4612 : CY T H4578 cu (d8 0 3) g8 (H cu 17) := (CY_fr w4558 gcu f4583 rfl (CY_fr hW gcu f4559 rfl h4547))
  have k4613 : H4578 x 3 = H x 3 := ((f4583 x 3 _ gx rfl).trans (f4559 x 3 _ gx rfl))
  have q4614 : H4578 x 3 = (ce8 : Int) := k4613.trans ece8
  have h4615 : HDR T H4578 ce8  := (HDR_fr w4558 gce8 f4583 rfl (HDR_fr hW gce8 f4559 rfl hhdr8))
  have h4616 : RY T H4578 m (d8 0 3) g8 (H m 32) := (RY_fr w4558 gm f4583 rfl (RY_fr hW gm f4559 rfl h4548))
  have h4617 : RB T H4578 m e8 d8 := (RB_fr w4558 gm f4583 rfl h4574)
  exact WL.loc hX (by simp) (next T H4578 ⟨⟨w4582, g0, gx, gm, go, by omega, by omega⟩, ⟨_, tc, tm, cu, dr, _, _, _, _, _, ce8, q4596, gtc, h4604, q4598, gtm, h4605, q4600, gcu, q4602, gdr, h4606, h4607, h4608, h4609, h4610, hC1, hC2, h4611, h4617, (h4612).1, (h4616).1, hE, hZ, (by omega), (by assumption), (by omega), (by first | assumption | exact SG_0), q4614, gce8, h4603, h4615, a4588, gm⟩, by omega, by omega⟩ (by omega) (by omega))
set_option maxHeartbeats 4000000 in
theorem wl_c32 {kt : Nat → Option mc_E} {CB SB : Nat} {X : mc_S → Prop} {T : wq_T} {H : wq_H} {Len x m o : Nat} {i : Int} (hX : wlX kt CB SB X) (hb : T.2.1 ≤ CB ∧ T.2.2.1 ≤ SB) (hI : wlJ Len x m o T H) (hL : Len ≤ 3072) (hi : 0 ≤ i ∧ i + 6 ≤ Len) (hb2 : T.2.1 + 20 ≤ CB ∧ T.2.2.1 + 500 ≤ SB)  (next : ∀ T' H', wlJ Len x m o T' H' → T'.2.1 ≤ T.2.1 + 20 → T'.2.2.1 ≤ T.2.2.1 + 500 → WL kt CB SB X 1653 (wlL i x m o) [] T' H') : WL kt CB SB X 1200 (wlL i x m o) [] T H := by
  obtain ⟨⟨hW, g0, gx, gm, go, hK, hr⟩, hXI, hY1, hY2⟩ := hI
  refine wl_of hX hb cL_1200 (rw_aload_n (pc' := 1201) (v := .ref x) rfl rfl rfl ?_)
  refine wl_of hX hb cL_1201 (rw_aload_n (pc' := 1202) (v := .ref 0) rfl rfl rfl ?_)
  refine wl_of hX hb cL_1202 (rw_iload (pc' := 1204) (z := i) rfl rfl ?_)
  refine wl_of hX hb cL_1204 (rw_iconst (pc' := 1205) rfl ?_)
  refine wl_of hX hb cL_1205 (rw_iadd (pc' := 1206) rfl ?_)
  refine wl_of hX hb cL_1206 (xa_I (so := 0) (pc' := 1207) (a := 0) hW g0 (wsh_s _) (by omega) (wty_s _ _) (by omega) (by omega) rfl (fun b4618 b4619 => ?_))
  obtain ⟨B, tc, tm, cu, dr, C8, e8, d8, n8, g8, ce8, e0, gtc, htc, em, gtm, htm, ecu, gcu, edr, gdr, hcu, hdr, hdec, hded, hsp, hC1, hC2, hcu8, hrb8, hcg8, hmn8, hE, hZ, hn8, hXA, hV8, hSG, ece8, gce8, hcen8, hhdr8, hknn8, -⟩ := hXI
  have hN3 := RB_n3 hrb8
  have hE13 : ∀ h : Nat, h < 24 → 0 ≤ e8 13 h ∧ e8 13 h ≤ 100 := fun k hk => by
    obtain ⟨s, h1, h2, h3⟩ := hcu8.1.2.2.1
    exact ⟨(h3 k hk).1, (h3 k hk).2.1⟩
  have hXW := hXA.1
  have hXN := hXA.2
  have hE0 : e8 0 3 = d8 0 3 ∧ e8 0 0 = d8 0 0 := by
    have h := hE 0 (by decide)
    exact ⟨congrFun h 3, congrFun h 0⟩
  have u4620 := CU_k hcu8
  have h4621 : CY T H cu (d8 0 3) g8 (H cu 17) := ⟨hcg8, rfl⟩
  have h4622 : RY T H m (d8 0 3) g8 (H m 32) := ⟨hmn8, rfl⟩
  obtain ⟨t9, ht9⟩ : ∃ t : Int, t = H x 9 := ⟨_, rfl⟩
  obtain ⟨y9, hy9⟩ : ∃ y : Int, y = H 0 ((i + 1).toNat) := ⟨_, rfl⟩
  obtain ⟨r4623, q4624, g4625⟩ := hW.ref gx (t' := 6) (n := 13) (j := 2) (p := 0) (q := 0) rfl (by decide) rfl
  refine wl_of hX hb cL_1207 (xc_V (pc' := 1210) (r := x) (as := [vI (H 0 ((i + 1).toNat))]) (st := []) (lm_11_155) rfl rfl (Nat.le_of_ble_eq_true rfl) hW gx sh_1 (by decide) rfl (by decide) (u_132 (e := e8) (d := d8) (n := n8) hW gx ⟨by omega, by omega⟩ ecu gcu q4624 g4625 ece8 gce8 (by assumption) (by assumption) (by omega) (by omega) (by omega) (by omega) hcu8 hcen8 hhdr8) (fun R4626 T4627 H4628 p4629 => ?_))
  obtain ⟨e4630, w4632, f4633, z4634, e4631, b4635, p4636⟩ := p4629
  subst e4630
  subst e4631
  show WL _ _ _ _ 1210 [(4, vI i), (3, .ref o), (2, .ref m), (1, .ref x), (0, .ref 0)] [vI z4634] _ H4628
  refine wl_of hX hb cL_1210 (rw_pop (pc' := 1211) rfl rfl ?_)
  refine wl_of hX hb cL_1211 (rw_aload_n (pc' := 1212) (v := .ref m) rfl rfl rfl ?_)
  refine wl_of hX hb cL_1212 (rw_aload_n (pc' := 1213) (v := .ref 0) rfl rfl rfl ?_)
  refine wl_of hX hb cL_1213 (rw_iload (pc' := 1215) (z := i) rfl rfl ?_)
  refine wl_of hX hb cL_1215 (rw_iconst (pc' := 1216) rfl ?_)
  refine wl_of hX hb cL_1216 (rw_iadd (pc' := 1217) rfl ?_)
  have k4640 : H4628 0 ((i + 1).toNat) = H 0 ((i + 1).toNat) := (f4633 0 ((i + 1).toNat) _ g0 (wmem_s rfl))
  refine wl_of hX hb cL_1217 (xa_I (so := 0) (pc' := 1218) (a := 0) w4632 g0 (wsh_s _) (by omega) (wty_s _ _) (by omega) (by omega) rfl (fun b4638 b4639 => ?_))
  have k4641 : wKI H4628 m = wKI H m := (wKI_fr hW gm f4633 rfl)
  have k4642 : H4628 x 9 = H x 9 := (f4633 x 9 _ gx rfl)
  have k4643 : H4628 m 6 = H m 6 := (f4633 m 6 _ gm rfl)
  have k4644 : H4628 x 11 = H x 11 := (f4633 x 11 _ gx rfl)
  have k4645 : H4628 m 13 = H m 13 := (f4633 m 13 _ gm rfl)
  have k4646 : H4628 x 8 = H x 8 := (f4633 x 8 _ gx rfl)
  have k4647 : H4628 m 3 = H m 3 := (f4633 m 3 _ gm rfl)
  rw [show H4628 0 ((i + 1).toNat) = H 0 ((i + 1).toNat) by omega]
  have h4648 : RB T H4628 m e8 d8 := (RB_fr hW gm f4633 rfl hrb8)
  have h4649 : KNN T H4628 m e8 d8 := (KNN_fr hW gm f4633 rfl hknn8)
  refine wl_of hX hb cL_1218 (xc_V (pc' := 1221) (r := m) (as := [vI (H 0 ((i + 1).toNat))]) (st := []) (lm_11_158) rfl rfl (Nat.le_of_ble_eq_true rfl) w4632 gm sh_42 (by decide) rfl (by decide) (u_272 (e := e8) (d := d8) w4632 gm ⟨by omega, by omega⟩ (by omega) (by assumption) (by assumption) (by assumption) (by assumption) h4648 h4649) (fun R4650 T4651 H4652 p4653 => ?_))
  obtain ⟨e4654, w4656, f4657, z4658, e4655, b4659, p4660⟩ := p4653
  subst e4654
  subst e4655
  obtain ⟨a4661, a4662⟩ := p4660
  show WL _ _ _ _ 1221 [(4, vI i), (3, .ref o), (2, .ref m), (1, .ref x), (0, .ref 0)] [vI z4658] _ H4652
  refine wl_of hX hb cL_1221 (rw_pop (pc' := 1222) rfl rfl ?_)
  refine wl_of hX hb cL_1222 (rw_goto (p1 := 1653) (by decide) ?_)
  have k4663 : H4652 x 9 = H4628 x 9 := (f4657 x 9 _ gx rfl)
  have k4664 : H4652 m 6 = H4628 m 6 := (f4657 m 6 _ gm rfl)
  have k4665 : H4652 x 11 = H4628 x 11 := (f4657 x 11 _ gx rfl)
  have k4666 : H4652 m 13 = H4628 m 13 := (f4657 m 13 _ gm rfl)
  have k4667 : H4652 x 8 = H4628 x 8 := (f4657 x 8 _ gx rfl)
  have k4668 : H4652 m 3 = H4628 m 3 := (f4657 m 3 _ gm rfl)
  have k4669 : H4652 x 0 = H x 0 := ((f4657 x 0 _ gx rfl).trans (f4633 x 0 _ gx rfl))
  have q4670 : H4652 x 0 = (tc : Int) := k4669.trans e0
  have k4671 : H4652 m 5 = H m 5 := ((f4657 m 5 _ gm rfl).trans (f4633 m 5 _ gm rfl))
  have q4672 : H4652 m 5 = (tm : Int) := k4671.trans em
  have k4673 : H4652 x 6 = H x 6 := ((f4657 x 6 _ gx rfl).trans (f4633 x 6 _ gx rfl))
  have q4674 : H4652 x 6 = (cu : Int) := k4673.trans ecu
  have k4675 : H4652 x 7 = H x 7 := ((f4657 x 7 _ gx rfl).trans (f4633 x 7 _ gx rfl))
  have q4676 : H4652 x 7 = (dr : Int) := k4675.trans edr
  have h4677 : CEN T H4652 ce8 e8 d8 := (CEN_fr w4632 gce8 f4657 rfl p4636)
  have h4678 : TP T H4652 tc B := (TP_fr w4632 gtc f4657 rfl (TP_fr hW gtc f4633 rfl htc))
  have h4679 : TM T H4652 tm B := (TM_fr w4632 gtm f4657 rfl (TM_fr hW gtm f4633 rfl htm))
  have h4680 : DD T H4652 cu  := (DD_fr w4632 gcu f4657 rfl (DD_fr hW gcu f4633 rfl hcu))
  have h4681 : DD T H4652 dr  := (DD_fr w4632 gdr f4657 rfl (DD_fr hW gdr f4633 rfl hdr))
  have h4682 : DE T H4652 cu  := (DE_fr w4632 gcu f4657 rfl (DE_fr hW gcu f4633 rfl hdec))
  have h4683 : DE T H4652 dr  := (DE_fr w4632 gdr f4657 rfl (DE_fr hW gdr f4633 rfl hded))
  have h4684 : SP T H4652 x C8 := (SP_fr w4632 gx f4657 rfl (SP_fr hW gx f4633 rfl hsp))
  have h4685 : CU T H4652 cu e8 d8 n8 := (CU_fr w4632 gcu f4657 rfl (CU_fr hW gcu f4633 rfl hcu8))
  have h4686 : CY T H4652 cu (d8 0 3) g8 (H cu 17) := (CY_fr w4632 gcu f4657 rfl (CY_fr hW gcu f4633 rfl h4621))
  have k4687 : H4652 x 3 = H x 3 := ((f4657 x 3 _ gx rfl).trans (f4633 x 3 _ gx rfl))
  have q4688 : H4652 x 3 = (ce8 : Int) := k4687.trans ece8
  have h4689 : HDR T H4652 ce8  := (HDR_fr w4632 gce8 f4657 rfl (HDR_fr hW gce8 f4633 rfl hhdr8))
  have h4690 : RY T H4652 m (d8 0 3) g8 (H m 32) := (RY_fr w4632 gm f4657 rfl (RY_fr hW gm f4633 rfl h4622))
  have h4691 : RB T H4652 m e8 d8 := (RB_fr w4632 gm f4657 rfl h4648)
  exact WL.loc hX (by simp) (next T H4652 ⟨⟨w4656, g0, gx, gm, go, by omega, by omega⟩, ⟨_, tc, tm, cu, dr, _, _, _, _, _, ce8, q4670, gtc, h4678, q4672, gtm, h4679, q4674, gcu, q4676, gdr, h4680, h4681, h4682, h4683, h4684, hC1, hC2, h4685, h4691, (h4686).1, (h4690).1, hE, hZ, (by omega), (by assumption), (by omega), (by first | assumption | exact SG_0), q4688, gce8, h4677, h4689, a4662, gm⟩, by omega, by omega⟩ (by omega) (by omega))
set_option maxHeartbeats 4000000 in
theorem wl_c33 {kt : Nat → Option mc_E} {CB SB : Nat} {X : mc_S → Prop} {T : wq_T} {H : wq_H} {Len x m o : Nat} {i : Int} (hX : wlX kt CB SB X) (hb : T.2.1 ≤ CB ∧ T.2.2.1 ≤ SB) (hI : wlJ Len x m o T H) (hL : Len ≤ 3072) (hi : 0 ≤ i ∧ i + 6 ≤ Len) (hb2 : T.2.1 + 20 ≤ CB ∧ T.2.2.1 + 500 ≤ SB)  (next : ∀ T' H', wlJ Len x m o T' H' → T'.2.1 ≤ T.2.1 + 20 → T'.2.2.1 ≤ T.2.2.1 + 500 → WL kt CB SB X 1653 (wlL i x m o) [] T' H') : WL kt CB SB X 1225 (wlL i x m o) [] T H := by
  obtain ⟨⟨hW, g0, gx, gm, go, hK, hr⟩, hXI, hY1, hY2⟩ := hI
  refine wl_of hX hb cL_1225 (rw_aload_n (pc' := 1226) (v := .ref x) rfl rfl rfl ?_)
  refine wl_of hX hb cL_1226 (rw_aload_n (pc' := 1227) (v := .ref 0) rfl rfl rfl ?_)
  refine wl_of hX hb cL_1227 (rw_iload (pc' := 1229) (z := i) rfl rfl ?_)
  refine wl_of hX hb cL_1229 (rw_iconst (pc' := 1230) rfl ?_)
  refine wl_of hX hb cL_1230 (rw_iadd (pc' := 1231) rfl ?_)
  refine wl_of hX hb cL_1231 (xa_I (so := 0) (pc' := 1232) (a := 0) hW g0 (wsh_s _) (by omega) (wty_s _ _) (by omega) (by omega) rfl (fun b4692 b4693 => ?_))
  obtain ⟨B, tc, tm, cu, dr, C8, e8, d8, n8, g8, ce8, e0, gtc, htc, em, gtm, htm, ecu, gcu, edr, gdr, hcu, hdr, hdec, hded, hsp, hC1, hC2, hcu8, hrb8, hcg8, hmn8, hE, hZ, hn8, hXA, hV8, hSG, ece8, gce8, hcen8, hhdr8, hknn8, -⟩ := hXI
  have hN3 := RB_n3 hrb8
  have hE13 : ∀ h : Nat, h < 24 → 0 ≤ e8 13 h ∧ e8 13 h ≤ 100 := fun k hk => by
    obtain ⟨s, h1, h2, h3⟩ := hcu8.1.2.2.1
    exact ⟨(h3 k hk).1, (h3 k hk).2.1⟩
  have hXW := hXA.1
  have hXN := hXA.2
  have hE0 : e8 0 3 = d8 0 3 ∧ e8 0 0 = d8 0 0 := by
    have h := hE 0 (by decide)
    exact ⟨congrFun h 3, congrFun h 0⟩
  have u4694 := CU_k hcu8
  have h4695 : CY T H cu (d8 0 3) g8 (H cu 17) := ⟨hcg8, rfl⟩
  have h4696 : RY T H m (d8 0 3) g8 (H m 32) := ⟨hmn8, rfl⟩
  obtain ⟨t9, ht9⟩ : ∃ t : Int, t = H x 9 := ⟨_, rfl⟩
  obtain ⟨y9, hy9⟩ : ∃ y : Int, y = H 0 ((i + 1).toNat) := ⟨_, rfl⟩
  obtain ⟨r4697, q4698, g4699⟩ := hW.ref gx (t' := 6) (n := 13) (j := 2) (p := 0) (q := 0) rfl (by decide) rfl
  refine wl_of hX hb cL_1232 (xc_V (pc' := 1235) (r := x) (as := [vI (H 0 ((i + 1).toNat))]) (st := []) (lm_11_159) rfl rfl (Nat.le_of_ble_eq_true rfl) hW gx sh_1 (by decide) rfl (by decide) (u_135 (e := e8) (d := d8) (n := n8) hW gx ⟨by omega, by omega⟩ ecu gcu q4698 g4699 ece8 gce8 (by assumption) (by assumption) (by omega) (by omega) (by omega) (by omega) hcu8 hcen8 hhdr8) (fun R4700 T4701 H4702 p4703 => ?_))
  obtain ⟨e4704, w4706, f4707, z4708, e4705, b4709, p4710⟩ := p4703
  subst e4704
  subst e4705
  show WL _ _ _ _ 1235 [(4, vI i), (3, .ref o), (2, .ref m), (1, .ref x), (0, .ref 0)] [vI z4708] _ H4702
  refine wl_of hX hb cL_1235 (rw_pop (pc' := 1236) rfl rfl ?_)
  refine wl_of hX hb cL_1236 (rw_aload_n (pc' := 1237) (v := .ref m) rfl rfl rfl ?_)
  refine wl_of hX hb cL_1237 (rw_aload_n (pc' := 1238) (v := .ref 0) rfl rfl rfl ?_)
  refine wl_of hX hb cL_1238 (rw_iload (pc' := 1240) (z := i) rfl rfl ?_)
  refine wl_of hX hb cL_1240 (rw_iconst (pc' := 1241) rfl ?_)
  refine wl_of hX hb cL_1241 (rw_iadd (pc' := 1242) rfl ?_)
  have k4714 : H4702 0 ((i + 1).toNat) = H 0 ((i + 1).toNat) := (f4707 0 ((i + 1).toNat) _ g0 (wmem_s rfl))
  refine wl_of hX hb cL_1242 (xa_I (so := 0) (pc' := 1243) (a := 0) w4706 g0 (wsh_s _) (by omega) (wty_s _ _) (by omega) (by omega) rfl (fun b4712 b4713 => ?_))
  have k4715 : wKI H4702 m = wKI H m := (wKI_fr hW gm f4707 rfl)
  have k4716 : H4702 x 9 = H x 9 := (f4707 x 9 _ gx rfl)
  have k4717 : H4702 m 6 = H m 6 := (f4707 m 6 _ gm rfl)
  have k4718 : H4702 x 11 = H x 11 := (f4707 x 11 _ gx rfl)
  have k4719 : H4702 m 13 = H m 13 := (f4707 m 13 _ gm rfl)
  have k4720 : H4702 x 8 = H x 8 := (f4707 x 8 _ gx rfl)
  have k4721 : H4702 m 3 = H m 3 := (f4707 m 3 _ gm rfl)
  rw [show H4702 0 ((i + 1).toNat) = H 0 ((i + 1).toNat) by omega]
  have h4722 : RB T H4702 m e8 d8 := (RB_fr hW gm f4707 rfl hrb8)
  have h4723 : KNN T H4702 m e8 d8 := (KNN_fr hW gm f4707 rfl hknn8)
  refine wl_of hX hb cL_1243 (xc_V (pc' := 1246) (r := m) (as := [vI (H 0 ((i + 1).toNat))]) (st := []) (lm_11_162) rfl rfl (Nat.le_of_ble_eq_true rfl) w4706 gm sh_42 (by decide) rfl (by decide) (u_275 (e := e8) (d := d8) w4706 gm ⟨by omega, by omega⟩ (by omega) (by assumption) (by assumption) (by assumption) (by assumption) h4722 h4723) (fun R4724 T4725 H4726 p4727 => ?_))
  obtain ⟨e4728, w4730, f4731, z4732, e4729, b4733, p4734⟩ := p4727
  subst e4728
  subst e4729
  obtain ⟨a4735, a4736⟩ := p4734
  show WL _ _ _ _ 1246 [(4, vI i), (3, .ref o), (2, .ref m), (1, .ref x), (0, .ref 0)] [vI z4732] _ H4726
  refine wl_of hX hb cL_1246 (rw_pop (pc' := 1247) rfl rfl ?_)
  refine wl_of hX hb cL_1247 (rw_goto (p1 := 1653) (by decide) ?_)
  have k4737 : H4726 x 9 = H4702 x 9 := (f4731 x 9 _ gx rfl)
  have k4738 : H4726 m 6 = H4702 m 6 := (f4731 m 6 _ gm rfl)
  have k4739 : H4726 x 11 = H4702 x 11 := (f4731 x 11 _ gx rfl)
  have k4740 : H4726 m 13 = H4702 m 13 := (f4731 m 13 _ gm rfl)
  have k4741 : H4726 x 8 = H4702 x 8 := (f4731 x 8 _ gx rfl)
  have k4742 : H4726 m 3 = H4702 m 3 := (f4731 m 3 _ gm rfl)
  have k4743 : H4726 x 0 = H x 0 := ((f4731 x 0 _ gx rfl).trans (f4707 x 0 _ gx rfl))
  have q4744 : H4726 x 0 = (tc : Int) := k4743.trans e0
  have k4745 : H4726 m 5 = H m 5 := ((f4731 m 5 _ gm rfl).trans (f4707 m 5 _ gm rfl))
  have q4746 : H4726 m 5 = (tm : Int) := k4745.trans em
  have k4747 : H4726 x 6 = H x 6 := ((f4731 x 6 _ gx rfl).trans (f4707 x 6 _ gx rfl))
  have q4748 : H4726 x 6 = (cu : Int) := k4747.trans ecu
  have k4749 : H4726 x 7 = H x 7 := ((f4731 x 7 _ gx rfl).trans (f4707 x 7 _ gx rfl))
  have q4750 : H4726 x 7 = (dr : Int) := k4749.trans edr
  have h4751 : CEN T H4726 ce8 e8 d8 := (CEN_fr w4706 gce8 f4731 rfl p4710)
  have h4752 : TP T H4726 tc B := (TP_fr w4706 gtc f4731 rfl (TP_fr hW gtc f4707 rfl htc))
  have h4753 : TM T H4726 tm B := (TM_fr w4706 gtm f4731 rfl (TM_fr hW gtm f4707 rfl htm))
  have h4754 : DD T H4726 cu  := (DD_fr w4706 gcu f4731 rfl (DD_fr hW gcu f4707 rfl hcu))
  have h4755 : DD T H4726 dr  := (DD_fr w4706 gdr f4731 rfl (DD_fr hW gdr f4707 rfl hdr))
  have h4756 : DE T H4726 cu  := (DE_fr w4706 gcu f4731 rfl (DE_fr hW gcu f4707 rfl hdec))
  have h4757 : DE T H4726 dr  := (DE_fr w4706 gdr f4731 rfl (DE_fr hW gdr f4707 rfl hded))
  have h4758 : SP T H4726 x C8 := (SP_fr w4706 gx f4731 rfl (SP_fr hW gx f4707 rfl hsp))
  have h4759 : CU T H4726 cu e8 d8 n8 := (CU_fr w4706 gcu f4731 rfl (CU_fr hW gcu f4707 rfl hcu8))
  have h4760 : CY T H4726 cu (d8 0 3) g8 (H cu 17) := (CY_fr w4706 gcu f4731 rfl (CY_fr hW gcu f4707 rfl h4695))
  have k4761 : H4726 x 3 = H x 3 := ((f4731 x 3 _ gx rfl).trans (f4707 x 3 _ gx rfl))
  have q4762 : H4726 x 3 = (ce8 : Int) := k4761.trans ece8
  have h4763 : HDR T H4726 ce8  := (HDR_fr w4706 gce8 f4731 rfl (HDR_fr hW gce8 f4707 rfl hhdr8))
  have h4764 : RY T H4726 m (d8 0 3) g8 (H m 32) := (RY_fr w4706 gm f4731 rfl (RY_fr hW gm f4707 rfl h4696))
  have h4765 : RB T H4726 m e8 d8 := (RB_fr w4706 gm f4731 rfl h4722)
  exact WL.loc hX (by simp) (next T H4726 ⟨⟨w4730, g0, gx, gm, go, by omega, by omega⟩, ⟨_, tc, tm, cu, dr, _, _, _, _, _, ce8, q4744, gtc, h4752, q4746, gtm, h4753, q4748, gcu, q4750, gdr, h4754, h4755, h4756, h4757, h4758, hC1, hC2, h4759, h4765, (h4760).1, (h4764).1, hE, hZ, (by omega), (by assumption), (by omega), (by first | assumption | exact SG_0), q4762, gce8, h4751, h4763, a4736, gm⟩, by omega, by omega⟩ (by omega) (by omega))
set_option maxHeartbeats 4000000 in
theorem wl_c34 {kt : Nat → Option mc_E} {CB SB : Nat} {X : mc_S → Prop} {T : wq_T} {H : wq_H} {Len x m o : Nat} {i : Int} (hX : wlX kt CB SB X) (hb : T.2.1 ≤ CB ∧ T.2.2.1 ≤ SB) (hI : wlJ Len x m o T H) (hL : Len ≤ 3072) (hi : 0 ≤ i ∧ i + 6 ≤ Len) (hb2 : T.2.1 + 20 ≤ CB ∧ T.2.2.1 + 500 ≤ SB)  (next : ∀ T' H', wlJ Len x m o T' H' → T'.2.1 ≤ T.2.1 + 20 → T'.2.2.1 ≤ T.2.2.1 + 500 → WL kt CB SB X 1653 (wlL i x m o) [] T' H') : WL kt CB SB X 1250 (wlL i x m o) [] T H := by
  obtain ⟨⟨hW, g0, gx, gm, go, hK, hr⟩, hXI, hY1, hY2⟩ := hI
  refine wl_of hX hb cL_1250 (rw_aload_n (pc' := 1251) (v := .ref x) rfl rfl rfl ?_)
  obtain ⟨B, tc, tm, cu, dr, C8, e8, d8, n8, g8, ce8, e0, gtc, htc, em, gtm, htm, ecu, gcu, edr, gdr, hcu, hdr, hdec, hded, hsp, hC1, hC2, hcu8, hrb8, hcg8, hmn8, hE, hZ, hn8, hXA, hV8, hSG, ece8, gce8, hcen8, hhdr8, hknn8, -⟩ := hXI
  have hN3 := RB_n3 hrb8
  have hE13 : ∀ h : Nat, h < 24 → 0 ≤ e8 13 h ∧ e8 13 h ≤ 100 := fun k hk => by
    obtain ⟨s, h1, h2, h3⟩ := hcu8.1.2.2.1
    exact ⟨(h3 k hk).1, (h3 k hk).2.1⟩
  have hXW := hXA.1
  have hXN := hXA.2
  have hE0 : e8 0 3 = d8 0 3 ∧ e8 0 0 = d8 0 0 := by
    have h := hE 0 (by decide)
    exact ⟨congrFun h 3, congrFun h 0⟩
  have u4766 := CU_k hcu8
  have h4767 : CY T H cu (d8 0 3) g8 (H cu 17) := ⟨hcg8, rfl⟩
  have h4768 : RY T H m (d8 0 3) g8 (H m 32) := ⟨hmn8, rfl⟩
  obtain ⟨t9, ht9⟩ : ∃ t : Int, t = H x 9 := ⟨_, rfl⟩
  obtain ⟨r4769, q4770, g4771⟩ := hW.ref gx (t' := 6) (n := 13) (j := 2) (p := 0) (q := 0) rfl (by decide) rfl
  refine wl_of hX hb cL_1251 (xc_V (pc' := 1254) (r := x) (as := []) (st := []) (lm_11_163) rfl rfl (Nat.le_of_ble_eq_true rfl) hW gx sh_1 (by decide) rfl (by decide) (u_137 (e := e8) (d := d8) (n := n8) hW gx ecu gcu q4770 g4771 ece8 gce8 (by assumption) (by assumption) (by omega) (by omega) (by omega) (by omega) hcu8 hcen8 hhdr8) (fun R4772 T4773 H4774 p4775 => ?_))
  obtain ⟨e4776, w4778, f4779, z4780, e4777, b4781, p4782⟩ := p4775
  subst e4776
  subst e4777
  show WL _ _ _ _ 1254 [(4, vI i), (3, .ref o), (2, .ref m), (1, .ref x), (0, .ref 0)] [vI z4780] _ H4774
  refine wl_of hX hb cL_1254 (rw_pop (pc' := 1255) rfl rfl ?_)
  refine wl_of hX hb cL_1255 (rw_aload_n (pc' := 1256) (v := .ref m) rfl rfl rfl ?_)
  have k4784 : wKI H4774 m = wKI H m := (wKI_fr hW gm f4779 rfl)
  have k4785 : H4774 x 9 = H x 9 := (f4779 x 9 _ gx rfl)
  have k4786 : H4774 m 6 = H m 6 := (f4779 m 6 _ gm rfl)
  have k4787 : H4774 x 11 = H x 11 := (f4779 x 11 _ gx rfl)
  have k4788 : H4774 m 13 = H m 13 := (f4779 m 13 _ gm rfl)
  have k4789 : H4774 x 8 = H x 8 := (f4779 x 8 _ gx rfl)
  have k4790 : H4774 m 3 = H m 3 := (f4779 m 3 _ gm rfl)
  have h4791 : RB T H4774 m e8 d8 := (RB_fr hW gm f4779 rfl hrb8)
  have h4792 : KNN T H4774 m e8 d8 := (KNN_fr hW gm f4779 rfl hknn8)
  refine wl_of hX hb cL_1256 (xc_V (pc' := 1259) (r := m) (as := []) (st := []) (lm_11_166) rfl rfl (Nat.le_of_ble_eq_true rfl) w4778 gm sh_42 (by decide) rfl (by decide) (u_276 (e := e8) (d := d8) w4778 gm (by omega) (by assumption) (by assumption) (by assumption) (by assumption) h4791 h4792) (fun R4793 T4794 H4795 p4796 => ?_))
  obtain ⟨e4797, w4799, f4800, z4801, e4798, b4802, p4803⟩ := p4796
  subst e4797
  subst e4798
  obtain ⟨a4804, a4805⟩ := p4803
  show WL _ _ _ _ 1259 [(4, vI i), (3, .ref o), (2, .ref m), (1, .ref x), (0, .ref 0)] [vI z4801] _ H4795
  refine wl_of hX hb cL_1259 (rw_pop (pc' := 1260) rfl rfl ?_)
  refine wl_of hX hb cL_1260 (rw_goto (p1 := 1653) (by decide) ?_)
  have k4806 : H4795 x 9 = H4774 x 9 := (f4800 x 9 _ gx rfl)
  have k4807 : H4795 m 6 = H4774 m 6 := (f4800 m 6 _ gm rfl)
  have k4808 : H4795 x 11 = H4774 x 11 := (f4800 x 11 _ gx rfl)
  have k4809 : H4795 m 13 = H4774 m 13 := (f4800 m 13 _ gm rfl)
  have k4810 : H4795 x 8 = H4774 x 8 := (f4800 x 8 _ gx rfl)
  have k4811 : H4795 m 3 = H4774 m 3 := (f4800 m 3 _ gm rfl)
  have k4812 : H4795 x 0 = H x 0 := ((f4800 x 0 _ gx rfl).trans (f4779 x 0 _ gx rfl))
  have q4813 : H4795 x 0 = (tc : Int) := k4812.trans e0
  have k4814 : H4795 m 5 = H m 5 := ((f4800 m 5 _ gm rfl).trans (f4779 m 5 _ gm rfl))
  have q4815 : H4795 m 5 = (tm : Int) := k4814.trans em
  have k4816 : H4795 x 6 = H x 6 := ((f4800 x 6 _ gx rfl).trans (f4779 x 6 _ gx rfl))
  have q4817 : H4795 x 6 = (cu : Int) := k4816.trans ecu
  have k4818 : H4795 x 7 = H x 7 := ((f4800 x 7 _ gx rfl).trans (f4779 x 7 _ gx rfl))
  have q4819 : H4795 x 7 = (dr : Int) := k4818.trans edr
  have h4820 : CEN T H4795 ce8 e8 d8 := (CEN_fr w4778 gce8 f4800 rfl p4782)
  have h4821 : TP T H4795 tc B := (TP_fr w4778 gtc f4800 rfl (TP_fr hW gtc f4779 rfl htc))
  have h4822 : TM T H4795 tm B := (TM_fr w4778 gtm f4800 rfl (TM_fr hW gtm f4779 rfl htm))
  have h4823 : DD T H4795 cu  := (DD_fr w4778 gcu f4800 rfl (DD_fr hW gcu f4779 rfl hcu))
  have h4824 : DD T H4795 dr  := (DD_fr w4778 gdr f4800 rfl (DD_fr hW gdr f4779 rfl hdr))
  have h4825 : DE T H4795 cu  := (DE_fr w4778 gcu f4800 rfl (DE_fr hW gcu f4779 rfl hdec))
  have h4826 : DE T H4795 dr  := (DE_fr w4778 gdr f4800 rfl (DE_fr hW gdr f4779 rfl hded))
  have h4827 : SP T H4795 x C8 := (SP_fr w4778 gx f4800 rfl (SP_fr hW gx f4779 rfl hsp))
  have h4828 : CU T H4795 cu e8 d8 n8 := (CU_fr w4778 gcu f4800 rfl (CU_fr hW gcu f4779 rfl hcu8))
  have h4829 : CY T H4795 cu (d8 0 3) g8 (H cu 17) := (CY_fr w4778 gcu f4800 rfl (CY_fr hW gcu f4779 rfl h4767))
  have k4830 : H4795 x 3 = H x 3 := ((f4800 x 3 _ gx rfl).trans (f4779 x 3 _ gx rfl))
  have q4831 : H4795 x 3 = (ce8 : Int) := k4830.trans ece8
  have h4832 : HDR T H4795 ce8  := (HDR_fr w4778 gce8 f4800 rfl (HDR_fr hW gce8 f4779 rfl hhdr8))
  have h4833 : RY T H4795 m (d8 0 3) g8 (H m 32) := (RY_fr w4778 gm f4800 rfl (RY_fr hW gm f4779 rfl h4768))
  have h4834 : RB T H4795 m e8 d8 := (RB_fr w4778 gm f4800 rfl h4791)
  exact WL.loc hX (by simp) (next T H4795 ⟨⟨w4799, g0, gx, gm, go, by omega, by omega⟩, ⟨_, tc, tm, cu, dr, _, _, _, _, _, ce8, q4813, gtc, h4821, q4815, gtm, h4822, q4817, gcu, q4819, gdr, h4823, h4824, h4825, h4826, h4827, hC1, hC2, h4828, h4834, (h4829).1, (h4833).1, hE, hZ, (by omega), (by assumption), (by omega), (by first | assumption | exact SG_0), q4831, gce8, h4820, h4832, a4805, gm⟩, by omega, by omega⟩ (by omega) (by omega))
set_option maxHeartbeats 4000000 in
theorem wl_c35 {kt : Nat → Option mc_E} {CB SB : Nat} {X : mc_S → Prop} {T : wq_T} {H : wq_H} {Len x m o : Nat} {i : Int} (hX : wlX kt CB SB X) (hb : T.2.1 ≤ CB ∧ T.2.2.1 ≤ SB) (hI : wlJ Len x m o T H) (hL : Len ≤ 3072) (hi : 0 ≤ i ∧ i + 6 ≤ Len) (hb2 : T.2.1 + 20 ≤ CB ∧ T.2.2.1 + 500 ≤ SB)  (next : ∀ T' H', wlJ Len x m o T' H' → T'.2.1 ≤ T.2.1 + 20 → T'.2.2.1 ≤ T.2.2.1 + 500 → WL kt CB SB X 1653 (wlL i x m o) [] T' H') : WL kt CB SB X 1263 (wlL i x m o) [] T H := by
  obtain ⟨⟨hW, g0, gx, gm, go, hK, hr⟩, hXI, hY1, hY2⟩ := hI
  refine wl_of hX hb cL_1263 (rw_aload_n (pc' := 1264) (v := .ref x) rfl rfl rfl ?_)
  refine wl_of hX hb cL_1264 (rw_aload_n (pc' := 1265) (v := .ref 0) rfl rfl rfl ?_)
  refine wl_of hX hb cL_1265 (rw_iload (pc' := 1267) (z := i) rfl rfl ?_)
  refine wl_of hX hb cL_1267 (rw_iconst (pc' := 1268) rfl ?_)
  refine wl_of hX hb cL_1268 (rw_iadd (pc' := 1269) rfl ?_)
  refine wl_of hX hb cL_1269 (xa_I (so := 0) (pc' := 1270) (a := 0) hW g0 (wsh_s _) (by omega) (wty_s _ _) (by omega) (by omega) rfl (fun b4835 b4836 => ?_))
  refine wl_of hX hb cL_1270 (rw_aload_n (pc' := 1271) (v := .ref 0) rfl rfl rfl ?_)
  refine wl_of hX hb cL_1271 (rw_iload (pc' := 1273) (z := i) rfl rfl ?_)
  refine wl_of hX hb cL_1273 (rw_iconst (pc' := 1274) rfl ?_)
  refine wl_of hX hb cL_1274 (rw_iadd (pc' := 1275) rfl ?_)
  refine wl_of hX hb cL_1275 (xa_I (so := 0) (pc' := 1276) (a := 0) hW g0 (wsh_s _) (by omega) (wty_s _ _) (by omega) (by omega) rfl (fun b4837 b4838 => ?_))
  refine wl_of hX hb cL_1276 (rw_if_eq (p1 := 1283) (p2 := 1279) (by decide) rfl ⟨by omega, by omega⟩ (fun c4839 => ?_) (fun c4839 => ?_))
  · refine wl_of hX hb cL_1283 (rw_iconst (pc' := 1284) rfl ?_)
    obtain ⟨B, tc, tm, cu, dr, C8, e8, d8, n8, g8, ce8, e0, gtc, htc, em, gtm, htm, ecu, gcu, edr, gdr, hcu, hdr, hdec, hded, hsp, hC1, hC2, hcu8, hrb8, hcg8, hmn8, hE, hZ, hn8, hXA, hV8, hSG, ece8, gce8, hcen8, hhdr8, hknn8, -⟩ := hXI
    have hN3 := RB_n3 hrb8
    have hE13 : ∀ h : Nat, h < 24 → 0 ≤ e8 13 h ∧ e8 13 h ≤ 100 := fun k hk => by
      obtain ⟨s, h1, h2, h3⟩ := hcu8.1.2.2.1
      exact ⟨(h3 k hk).1, (h3 k hk).2.1⟩
    have hXW := hXA.1
    have hXN := hXA.2
    have hE0 : e8 0 3 = d8 0 3 ∧ e8 0 0 = d8 0 0 := by
      have h := hE 0 (by decide)
      exact ⟨congrFun h 3, congrFun h 0⟩
    have u4840 := CU_k hcu8
    have h4841 : CY T H cu (d8 0 3) g8 (H cu 17) := ⟨hcg8, rfl⟩
    have h4842 : RY T H m (d8 0 3) g8 (H m 32) := ⟨hmn8, rfl⟩
    obtain ⟨t9, ht9⟩ : ∃ t : Int, t = H x 9 := ⟨_, rfl⟩
    obtain ⟨y9, hy9⟩ : ∃ y : Int, y = 0 := ⟨_, rfl⟩
    obtain ⟨r4843, q4844, g4845⟩ := hW.ref gx (t' := 6) (n := 13) (j := 2) (p := 0) (q := 0) rfl (by decide) rfl
    refine wl_of hX hb cL_1284 (xc_V (pc' := 1287) (r := x) (as := [vI (H 0 ((i + 1).toNat)), vI 0]) (st := []) (lm_11_167) rfl rfl (Nat.le_of_ble_eq_true rfl) hW gx sh_1 (by decide) rfl (by decide) (u_146 (e := e8) (d := d8) (n := n8) hW gx ⟨by omega, by omega⟩ ⟨by decide, by decide⟩ ecu gcu q4844 g4845 ece8 gce8 (by assumption) (by assumption) (by omega) (by omega) (by omega) (by omega) hcu8 hcen8 hhdr8) (fun R4846 T4847 H4848 p4849 => ?_))
    obtain ⟨e4850, w4852, f4853, z4854, e4851, b4855, p4856⟩ := p4849
    subst e4850
    subst e4851
    show WL _ _ _ _ 1287 [(4, vI i), (3, .ref o), (2, .ref m), (1, .ref x), (0, .ref 0)] [vI z4854] _ H4848
    refine wl_of hX hb cL_1287 (rw_pop (pc' := 1288) rfl rfl ?_)
    refine wl_of hX hb cL_1288 (rw_aload_n (pc' := 1289) (v := .ref m) rfl rfl rfl ?_)
    refine wl_of hX hb cL_1289 (rw_aload_n (pc' := 1290) (v := .ref 0) rfl rfl rfl ?_)
    refine wl_of hX hb cL_1290 (rw_iload (pc' := 1292) (z := i) rfl rfl ?_)
    refine wl_of hX hb cL_1292 (rw_iconst (pc' := 1293) rfl ?_)
    refine wl_of hX hb cL_1293 (rw_iadd (pc' := 1294) rfl ?_)
    have k4860 : H4848 0 ((i + 1).toNat) = H 0 ((i + 1).toNat) := (f4853 0 ((i + 1).toNat) _ g0 (wmem_s rfl))
    refine wl_of hX hb cL_1294 (xa_I (so := 0) (pc' := 1295) (a := 0) w4852 g0 (wsh_s _) (by omega) (wty_s _ _) (by omega) (by omega) rfl (fun b4858 b4859 => ?_))
    refine wl_of hX hb cL_1295 (rw_aload_n (pc' := 1296) (v := .ref 0) rfl rfl rfl ?_)
    refine wl_of hX hb cL_1296 (rw_iload (pc' := 1298) (z := i) rfl rfl ?_)
    refine wl_of hX hb cL_1298 (rw_iconst (pc' := 1299) rfl ?_)
    refine wl_of hX hb cL_1299 (rw_iadd (pc' := 1300) rfl ?_)
    have k4863 : H4848 0 ((i + 2).toNat) = H 0 ((i + 2).toNat) := (f4853 0 ((i + 2).toNat) _ g0 (wmem_s rfl))
    refine wl_of hX hb cL_1300 (xa_I (so := 0) (pc' := 1301) (a := 0) w4852 g0 (wsh_s _) (by omega) (wty_s _ _) (by omega) (by omega) rfl (fun b4861 b4862 => ?_))
    refine wl_of hX hb cL_1301 (rw_if_eq (p1 := 1308) (p2 := 1304) (by decide) rfl ⟨by omega, by omega⟩ (fun c4864 => ?_) (fun c4864 => ?_))
    · refine wl_of hX hb cL_1308 (rw_iconst (pc' := 1309) rfl ?_)
      have k4865 : wKI H4848 m = wKI H m := (wKI_fr hW gm f4853 rfl)
      have k4866 : H4848 x 9 = H x 9 := (f4853 x 9 _ gx rfl)
      have k4867 : H4848 m 6 = H m 6 := (f4853 m 6 _ gm rfl)
      have k4868 : H4848 x 11 = H x 11 := (f4853 x 11 _ gx rfl)
      have k4869 : H4848 m 13 = H m 13 := (f4853 m 13 _ gm rfl)
      have k4870 : H4848 x 8 = H x 8 := (f4853 x 8 _ gx rfl)
      have k4871 : H4848 m 3 = H m 3 := (f4853 m 3 _ gm rfl)
      rw [show H4848 0 ((i + 1).toNat) = H 0 ((i + 1).toNat) by omega]
      have h4872 : RB T H4848 m e8 d8 := (RB_fr hW gm f4853 rfl hrb8)
      have h4873 : KNN T H4848 m e8 d8 := (KNN_fr hW gm f4853 rfl hknn8)
      refine wl_of hX hb cL_1309 (xc_V (pc' := 1312) (r := m) (as := [vI (H 0 ((i + 1).toNat)), vI 0]) (st := []) (lm_11_170) rfl rfl (Nat.le_of_ble_eq_true rfl) w4852 gm sh_42 (by decide) rfl (by decide) (u_279 (e := e8) (d := d8) w4852 gm ⟨by omega, by omega⟩ ⟨by decide, by decide⟩ (by omega) (by assumption) (by assumption) (by assumption) (by assumption) h4872 h4873) (fun R4874 T4875 H4876 p4877 => ?_))
      obtain ⟨e4878, w4880, f4881, z4882, e4879, b4883, p4884⟩ := p4877
      subst e4878
      subst e4879
      obtain ⟨a4885, a4886⟩ := p4884
      show WL _ _ _ _ 1312 [(4, vI i), (3, .ref o), (2, .ref m), (1, .ref x), (0, .ref 0)] [vI z4882] _ H4876
      refine wl_of hX hb cL_1312 (rw_pop (pc' := 1313) rfl rfl ?_)
      refine wl_of hX hb cL_1313 (rw_goto (p1 := 1653) (by decide) ?_)
      have k4887 : H4876 x 9 = H4848 x 9 := (f4881 x 9 _ gx rfl)
      have k4888 : H4876 m 6 = H4848 m 6 := (f4881 m 6 _ gm rfl)
      have k4889 : H4876 x 11 = H4848 x 11 := (f4881 x 11 _ gx rfl)
      have k4890 : H4876 m 13 = H4848 m 13 := (f4881 m 13 _ gm rfl)
      have k4891 : H4876 x 8 = H4848 x 8 := (f4881 x 8 _ gx rfl)
      have k4892 : H4876 m 3 = H4848 m 3 := (f4881 m 3 _ gm rfl)
      have k4893 : H4876 x 0 = H x 0 := ((f4881 x 0 _ gx rfl).trans (f4853 x 0 _ gx rfl))
      have q4894 : H4876 x 0 = (tc : Int) := k4893.trans e0
      have k4895 : H4876 m 5 = H m 5 := ((f4881 m 5 _ gm rfl).trans (f4853 m 5 _ gm rfl))
      have q4896 : H4876 m 5 = (tm : Int) := k4895.trans em
      have k4897 : H4876 x 6 = H x 6 := ((f4881 x 6 _ gx rfl).trans (f4853 x 6 _ gx rfl))
      have q4898 : H4876 x 6 = (cu : Int) := k4897.trans ecu
      have k4899 : H4876 x 7 = H x 7 := ((f4881 x 7 _ gx rfl).trans (f4853 x 7 _ gx rfl))
      have q4900 : H4876 x 7 = (dr : Int) := k4899.trans edr
      have h4901 : CEN T H4876 ce8 e8 d8 := (CEN_fr w4852 gce8 f4881 rfl p4856)
      have h4902 : TP T H4876 tc B := (TP_fr w4852 gtc f4881 rfl (TP_fr hW gtc f4853 rfl htc))
      have h4903 : TM T H4876 tm B := (TM_fr w4852 gtm f4881 rfl (TM_fr hW gtm f4853 rfl htm))
      have h4904 : DD T H4876 cu  := (DD_fr w4852 gcu f4881 rfl (DD_fr hW gcu f4853 rfl hcu))
      have h4905 : DD T H4876 dr  := (DD_fr w4852 gdr f4881 rfl (DD_fr hW gdr f4853 rfl hdr))
      have h4906 : DE T H4876 cu  := (DE_fr w4852 gcu f4881 rfl (DE_fr hW gcu f4853 rfl hdec))
      have h4907 : DE T H4876 dr  := (DE_fr w4852 gdr f4881 rfl (DE_fr hW gdr f4853 rfl hded))
      have h4908 : SP T H4876 x C8 := (SP_fr w4852 gx f4881 rfl (SP_fr hW gx f4853 rfl hsp))
      have h4909 : CU T H4876 cu e8 d8 n8 := (CU_fr w4852 gcu f4881 rfl (CU_fr hW gcu f4853 rfl hcu8))
      have h4910 : CY T H4876 cu (d8 0 3) g8 (H cu 17) := (CY_fr w4852 gcu f4881 rfl (CY_fr hW gcu f4853 rfl h4841))
      have k4911 : H4876 x 3 = H x 3 := ((f4881 x 3 _ gx rfl).trans (f4853 x 3 _ gx rfl))
      have q4912 : H4876 x 3 = (ce8 : Int) := k4911.trans ece8
      have h4913 : HDR T H4876 ce8  := (HDR_fr w4852 gce8 f4881 rfl (HDR_fr hW gce8 f4853 rfl hhdr8))
      have h4914 : RY T H4876 m (d8 0 3) g8 (H m 32) := (RY_fr w4852 gm f4881 rfl (RY_fr hW gm f4853 rfl h4842))
      have h4915 : RB T H4876 m e8 d8 := (RB_fr w4852 gm f4881 rfl h4872)
      exact WL.loc hX (by simp) (next T H4876 ⟨⟨w4880, g0, gx, gm, go, by omega, by omega⟩, ⟨_, tc, tm, cu, dr, _, _, _, _, _, ce8, q4894, gtc, h4902, q4896, gtm, h4903, q4898, gcu, q4900, gdr, h4904, h4905, h4906, h4907, h4908, hC1, hC2, h4909, h4915, (h4910).1, (h4914).1, hE, hZ, (by omega), (by assumption), (by omega), (by first | assumption | exact SG_0), q4912, gce8, h4901, h4913, a4886, gm⟩, by omega, by omega⟩ (by omega) (by omega))
    · exfalso
      omega
  · refine wl_of hX hb cL_1279 (rw_iconst (pc' := 1280) rfl ?_)
    refine wl_of hX hb cL_1280 (rw_goto (p1 := 1284) (by decide) ?_)
    obtain ⟨B, tc, tm, cu, dr, C8, e8, d8, n8, g8, ce8, e0, gtc, htc, em, gtm, htm, ecu, gcu, edr, gdr, hcu, hdr, hdec, hded, hsp, hC1, hC2, hcu8, hrb8, hcg8, hmn8, hE, hZ, hn8, hXA, hV8, hSG, ece8, gce8, hcen8, hhdr8, hknn8, -⟩ := hXI
    have hN3 := RB_n3 hrb8
    have hE13 : ∀ h : Nat, h < 24 → 0 ≤ e8 13 h ∧ e8 13 h ≤ 100 := fun k hk => by
      obtain ⟨s, h1, h2, h3⟩ := hcu8.1.2.2.1
      exact ⟨(h3 k hk).1, (h3 k hk).2.1⟩
    have hXW := hXA.1
    have hXN := hXA.2
    have hE0 : e8 0 3 = d8 0 3 ∧ e8 0 0 = d8 0 0 := by
      have h := hE 0 (by decide)
      exact ⟨congrFun h 3, congrFun h 0⟩
    have u4916 := CU_k hcu8
    have h4917 : CY T H cu (d8 0 3) g8 (H cu 17) := ⟨hcg8, rfl⟩
    have h4918 : RY T H m (d8 0 3) g8 (H m 32) := ⟨hmn8, rfl⟩
    obtain ⟨t9, ht9⟩ : ∃ t : Int, t = H x 9 := ⟨_, rfl⟩
    obtain ⟨y9, hy9⟩ : ∃ y : Int, y = 1 := ⟨_, rfl⟩
    obtain ⟨r4919, q4920, g4921⟩ := hW.ref gx (t' := 6) (n := 13) (j := 2) (p := 0) (q := 0) rfl (by decide) rfl
    refine wl_of hX hb cL_1284 (xc_V (pc' := 1287) (r := x) (as := [vI (H 0 ((i + 1).toNat)), vI 1]) (st := []) (lm_11_167) rfl rfl (Nat.le_of_ble_eq_true rfl) hW gx sh_1 (by decide) rfl (by decide) (u_146 (e := e8) (d := d8) (n := n8) hW gx ⟨by omega, by omega⟩ ⟨by decide, by decide⟩ ecu gcu q4920 g4921 ece8 gce8 (by assumption) (by assumption) (by omega) (by omega) (by omega) (by omega) hcu8 hcen8 hhdr8) (fun R4922 T4923 H4924 p4925 => ?_))
    obtain ⟨e4926, w4928, f4929, z4930, e4927, b4931, p4932⟩ := p4925
    subst e4926
    subst e4927
    show WL _ _ _ _ 1287 [(4, vI i), (3, .ref o), (2, .ref m), (1, .ref x), (0, .ref 0)] [vI z4930] _ H4924
    refine wl_of hX hb cL_1287 (rw_pop (pc' := 1288) rfl rfl ?_)
    refine wl_of hX hb cL_1288 (rw_aload_n (pc' := 1289) (v := .ref m) rfl rfl rfl ?_)
    refine wl_of hX hb cL_1289 (rw_aload_n (pc' := 1290) (v := .ref 0) rfl rfl rfl ?_)
    refine wl_of hX hb cL_1290 (rw_iload (pc' := 1292) (z := i) rfl rfl ?_)
    refine wl_of hX hb cL_1292 (rw_iconst (pc' := 1293) rfl ?_)
    refine wl_of hX hb cL_1293 (rw_iadd (pc' := 1294) rfl ?_)
    have k4936 : H4924 0 ((i + 1).toNat) = H 0 ((i + 1).toNat) := (f4929 0 ((i + 1).toNat) _ g0 (wmem_s rfl))
    refine wl_of hX hb cL_1294 (xa_I (so := 0) (pc' := 1295) (a := 0) w4928 g0 (wsh_s _) (by omega) (wty_s _ _) (by omega) (by omega) rfl (fun b4934 b4935 => ?_))
    refine wl_of hX hb cL_1295 (rw_aload_n (pc' := 1296) (v := .ref 0) rfl rfl rfl ?_)
    refine wl_of hX hb cL_1296 (rw_iload (pc' := 1298) (z := i) rfl rfl ?_)
    refine wl_of hX hb cL_1298 (rw_iconst (pc' := 1299) rfl ?_)
    refine wl_of hX hb cL_1299 (rw_iadd (pc' := 1300) rfl ?_)
    have k4939 : H4924 0 ((i + 2).toNat) = H 0 ((i + 2).toNat) := (f4929 0 ((i + 2).toNat) _ g0 (wmem_s rfl))
    refine wl_of hX hb cL_1300 (xa_I (so := 0) (pc' := 1301) (a := 0) w4928 g0 (wsh_s _) (by omega) (wty_s _ _) (by omega) (by omega) rfl (fun b4937 b4938 => ?_))
    refine wl_of hX hb cL_1301 (rw_if_eq (p1 := 1308) (p2 := 1304) (by decide) rfl ⟨by omega, by omega⟩ (fun c4940 => ?_) (fun c4940 => ?_))
    · refine wl_of hX hb cL_1308 (rw_iconst (pc' := 1309) rfl ?_)
      have k4941 : wKI H4924 m = wKI H m := (wKI_fr hW gm f4929 rfl)
      have k4942 : H4924 x 9 = H x 9 := (f4929 x 9 _ gx rfl)
      have k4943 : H4924 m 6 = H m 6 := (f4929 m 6 _ gm rfl)
      have k4944 : H4924 x 11 = H x 11 := (f4929 x 11 _ gx rfl)
      have k4945 : H4924 m 13 = H m 13 := (f4929 m 13 _ gm rfl)
      have k4946 : H4924 x 8 = H x 8 := (f4929 x 8 _ gx rfl)
      have k4947 : H4924 m 3 = H m 3 := (f4929 m 3 _ gm rfl)
      rw [show H4924 0 ((i + 1).toNat) = H 0 ((i + 1).toNat) by omega]
      have h4948 : RB T H4924 m e8 d8 := (RB_fr hW gm f4929 rfl hrb8)
      have h4949 : KNN T H4924 m e8 d8 := (KNN_fr hW gm f4929 rfl hknn8)
      refine wl_of hX hb cL_1309 (xc_V (pc' := 1312) (r := m) (as := [vI (H 0 ((i + 1).toNat)), vI 0]) (st := []) (lm_11_170) rfl rfl (Nat.le_of_ble_eq_true rfl) w4928 gm sh_42 (by decide) rfl (by decide) (u_279 (e := e8) (d := d8) w4928 gm ⟨by omega, by omega⟩ ⟨by decide, by decide⟩ (by omega) (by assumption) (by assumption) (by assumption) (by assumption) h4948 h4949) (fun R4950 T4951 H4952 p4953 => ?_))
      obtain ⟨e4954, w4956, f4957, z4958, e4955, b4959, p4960⟩ := p4953
      subst e4954
      subst e4955
      obtain ⟨a4961, a4962⟩ := p4960
      show WL _ _ _ _ 1312 [(4, vI i), (3, .ref o), (2, .ref m), (1, .ref x), (0, .ref 0)] [vI z4958] _ H4952
      refine wl_of hX hb cL_1312 (rw_pop (pc' := 1313) rfl rfl ?_)
      refine wl_of hX hb cL_1313 (rw_goto (p1 := 1653) (by decide) ?_)
      have k4963 : H4952 x 9 = H4924 x 9 := (f4957 x 9 _ gx rfl)
      have k4964 : H4952 m 6 = H4924 m 6 := (f4957 m 6 _ gm rfl)
      have k4965 : H4952 x 11 = H4924 x 11 := (f4957 x 11 _ gx rfl)
      have k4966 : H4952 m 13 = H4924 m 13 := (f4957 m 13 _ gm rfl)
      have k4967 : H4952 x 8 = H4924 x 8 := (f4957 x 8 _ gx rfl)
      have k4968 : H4952 m 3 = H4924 m 3 := (f4957 m 3 _ gm rfl)
      have k4969 : H4952 x 0 = H x 0 := ((f4957 x 0 _ gx rfl).trans (f4929 x 0 _ gx rfl))
      have q4970 : H4952 x 0 = (tc : Int) := k4969.trans e0
      have k4971 : H4952 m 5 = H m 5 := ((f4957 m 5 _ gm rfl).trans (f4929 m 5 _ gm rfl))
      have q4972 : H4952 m 5 = (tm : Int) := k4971.trans em
      have k4973 : H4952 x 6 = H x 6 := ((f4957 x 6 _ gx rfl).trans (f4929 x 6 _ gx rfl))
      have q4974 : H4952 x 6 = (cu : Int) := k4973.trans ecu
      have k4975 : H4952 x 7 = H x 7 := ((f4957 x 7 _ gx rfl).trans (f4929 x 7 _ gx rfl))
      have q4976 : H4952 x 7 = (dr : Int) := k4975.trans edr
      have h4977 : CEN T H4952 ce8 e8 d8 := (CEN_fr w4928 gce8 f4957 rfl p4932)
      have h4978 : TP T H4952 tc B := (TP_fr w4928 gtc f4957 rfl (TP_fr hW gtc f4929 rfl htc))
      have h4979 : TM T H4952 tm B := (TM_fr w4928 gtm f4957 rfl (TM_fr hW gtm f4929 rfl htm))
      have h4980 : DD T H4952 cu  := (DD_fr w4928 gcu f4957 rfl (DD_fr hW gcu f4929 rfl hcu))
      have h4981 : DD T H4952 dr  := (DD_fr w4928 gdr f4957 rfl (DD_fr hW gdr f4929 rfl hdr))
      have h4982 : DE T H4952 cu  := (DE_fr w4928 gcu f4957 rfl (DE_fr hW gcu f4929 rfl hdec))
      have h4983 : DE T H4952 dr  := (DE_fr w4928 gdr f4957 rfl (DE_fr hW gdr f4929 rfl hded))
      have h4984 : SP T H4952 x C8 := (SP_fr w4928 gx f4957 rfl (SP_fr hW gx f4929 rfl hsp))
      have h4985 : CU T H4952 cu e8 d8 n8 := (CU_fr w4928 gcu f4957 rfl (CU_fr hW gcu f4929 rfl hcu8))
      have h4986 : CY T H4952 cu (d8 0 3) g8 (H cu 17) := (CY_fr w4928 gcu f4957 rfl (CY_fr hW gcu f4929 rfl h4917))
      have k4987 : H4952 x 3 = H x 3 := ((f4957 x 3 _ gx rfl).trans (f4929 x 3 _ gx rfl))
      have q4988 : H4952 x 3 = (ce8 : Int) := k4987.trans ece8
      have h4989 : HDR T H4952 ce8  := (HDR_fr w4928 gce8 f4957 rfl (HDR_fr hW gce8 f4929 rfl hhdr8))
      have h4990 : RY T H4952 m (d8 0 3) g8 (H m 32) := (RY_fr w4928 gm f4957 rfl (RY_fr hW gm f4929 rfl h4918))
      have h4991 : RB T H4952 m e8 d8 := (RB_fr w4928 gm f4957 rfl h4948)
      exact WL.loc hX (by simp) (next T H4952 ⟨⟨w4956, g0, gx, gm, go, by omega, by omega⟩, ⟨_, tc, tm, cu, dr, _, _, _, _, _, ce8, q4970, gtc, h4978, q4972, gtm, h4979, q4974, gcu, q4976, gdr, h4980, h4981, h4982, h4983, h4984, hC1, hC2, h4985, h4991, (h4986).1, (h4990).1, hE, hZ, (by omega), (by assumption), (by omega), (by first | assumption | exact SG_0), q4988, gce8, h4977, h4989, a4962, gm⟩, by omega, by omega⟩ (by omega) (by omega))
    · refine wl_of hX hb cL_1304 (rw_iconst (pc' := 1305) rfl ?_)
      refine wl_of hX hb cL_1305 (rw_goto (p1 := 1309) (by decide) ?_)
      have k4992 : wKI H4924 m = wKI H m := (wKI_fr hW gm f4929 rfl)
      have k4993 : H4924 x 9 = H x 9 := (f4929 x 9 _ gx rfl)
      have k4994 : H4924 m 6 = H m 6 := (f4929 m 6 _ gm rfl)
      have k4995 : H4924 x 11 = H x 11 := (f4929 x 11 _ gx rfl)
      have k4996 : H4924 m 13 = H m 13 := (f4929 m 13 _ gm rfl)
      have k4997 : H4924 x 8 = H x 8 := (f4929 x 8 _ gx rfl)
      have k4998 : H4924 m 3 = H m 3 := (f4929 m 3 _ gm rfl)
      rw [show H4924 0 ((i + 1).toNat) = H 0 ((i + 1).toNat) by omega]
      have h4999 : RB T H4924 m e8 d8 := (RB_fr hW gm f4929 rfl hrb8)
      have h5000 : KNN T H4924 m e8 d8 := (KNN_fr hW gm f4929 rfl hknn8)
      refine wl_of hX hb cL_1309 (xc_V (pc' := 1312) (r := m) (as := [vI (H 0 ((i + 1).toNat)), vI 1]) (st := []) (lm_11_170) rfl rfl (Nat.le_of_ble_eq_true rfl) w4928 gm sh_42 (by decide) rfl (by decide) (u_279 (e := e8) (d := d8) w4928 gm ⟨by omega, by omega⟩ ⟨by decide, by decide⟩ (by omega) (by assumption) (by assumption) (by assumption) (by assumption) h4999 h5000) (fun R5001 T5002 H5003 p5004 => ?_))
      obtain ⟨e5005, w5007, f5008, z5009, e5006, b5010, p5011⟩ := p5004
      subst e5005
      subst e5006
      obtain ⟨a5012, a5013⟩ := p5011
      show WL _ _ _ _ 1312 [(4, vI i), (3, .ref o), (2, .ref m), (1, .ref x), (0, .ref 0)] [vI z5009] _ H5003
      refine wl_of hX hb cL_1312 (rw_pop (pc' := 1313) rfl rfl ?_)
      refine wl_of hX hb cL_1313 (rw_goto (p1 := 1653) (by decide) ?_)
      have k5014 : H5003 x 9 = H4924 x 9 := (f5008 x 9 _ gx rfl)
      have k5015 : H5003 m 6 = H4924 m 6 := (f5008 m 6 _ gm rfl)
      have k5016 : H5003 x 11 = H4924 x 11 := (f5008 x 11 _ gx rfl)
      have k5017 : H5003 m 13 = H4924 m 13 := (f5008 m 13 _ gm rfl)
      have k5018 : H5003 x 8 = H4924 x 8 := (f5008 x 8 _ gx rfl)
      have k5019 : H5003 m 3 = H4924 m 3 := (f5008 m 3 _ gm rfl)
      have k5020 : H5003 x 0 = H x 0 := ((f5008 x 0 _ gx rfl).trans (f4929 x 0 _ gx rfl))
      have q5021 : H5003 x 0 = (tc : Int) := k5020.trans e0
      have k5022 : H5003 m 5 = H m 5 := ((f5008 m 5 _ gm rfl).trans (f4929 m 5 _ gm rfl))
      have q5023 : H5003 m 5 = (tm : Int) := k5022.trans em
      have k5024 : H5003 x 6 = H x 6 := ((f5008 x 6 _ gx rfl).trans (f4929 x 6 _ gx rfl))
      have q5025 : H5003 x 6 = (cu : Int) := k5024.trans ecu
      have k5026 : H5003 x 7 = H x 7 := ((f5008 x 7 _ gx rfl).trans (f4929 x 7 _ gx rfl))
      have q5027 : H5003 x 7 = (dr : Int) := k5026.trans edr
      have h5028 : CEN T H5003 ce8 e8 d8 := (CEN_fr w4928 gce8 f5008 rfl p4932)
      have h5029 : TP T H5003 tc B := (TP_fr w4928 gtc f5008 rfl (TP_fr hW gtc f4929 rfl htc))
      have h5030 : TM T H5003 tm B := (TM_fr w4928 gtm f5008 rfl (TM_fr hW gtm f4929 rfl htm))
      have h5031 : DD T H5003 cu  := (DD_fr w4928 gcu f5008 rfl (DD_fr hW gcu f4929 rfl hcu))
      have h5032 : DD T H5003 dr  := (DD_fr w4928 gdr f5008 rfl (DD_fr hW gdr f4929 rfl hdr))
      have h5033 : DE T H5003 cu  := (DE_fr w4928 gcu f5008 rfl (DE_fr hW gcu f4929 rfl hdec))
      have h5034 : DE T H5003 dr  := (DE_fr w4928 gdr f5008 rfl (DE_fr hW gdr f4929 rfl hded))
      have h5035 : SP T H5003 x C8 := (SP_fr w4928 gx f5008 rfl (SP_fr hW gx f4929 rfl hsp))
      have h5036 : CU T H5003 cu e8 d8 n8 := (CU_fr w4928 gcu f5008 rfl (CU_fr hW gcu f4929 rfl hcu8))
      have h5037 : CY T H5003 cu (d8 0 3) g8 (H cu 17) := (CY_fr w4928 gcu f5008 rfl (CY_fr hW gcu f4929 rfl h4917))
      have k5038 : H5003 x 3 = H x 3 := ((f5008 x 3 _ gx rfl).trans (f4929 x 3 _ gx rfl))
      have q5039 : H5003 x 3 = (ce8 : Int) := k5038.trans ece8
      have h5040 : HDR T H5003 ce8  := (HDR_fr w4928 gce8 f5008 rfl (HDR_fr hW gce8 f4929 rfl hhdr8))
      have h5041 : RY T H5003 m (d8 0 3) g8 (H m 32) := (RY_fr w4928 gm f5008 rfl (RY_fr hW gm f4929 rfl h4918))
      have h5042 : RB T H5003 m e8 d8 := (RB_fr w4928 gm f5008 rfl h4999)
      exact WL.loc hX (by simp) (next T H5003 ⟨⟨w5007, g0, gx, gm, go, by omega, by omega⟩, ⟨_, tc, tm, cu, dr, _, _, _, _, _, ce8, q5021, gtc, h5029, q5023, gtm, h5030, q5025, gcu, q5027, gdr, h5031, h5032, h5033, h5034, h5035, hC1, hC2, h5036, h5042, (h5037).1, (h5041).1, hE, hZ, (by omega), (by assumption), (by omega), (by first | assumption | exact SG_0), q5039, gce8, h5028, h5040, a5013, gm⟩, by omega, by omega⟩ (by omega) (by omega))
