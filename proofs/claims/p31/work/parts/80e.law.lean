/-! THE LAW, GONE ON WITH (own work) -/
set_option maxHeartbeats 4000000 in
theorem wl_c29 {kt : Nat → Option mc_E} {CB SB : Nat} {X : mc_S → Prop} {T : wq_T} {H : wq_H} {Len x m o : Nat} {i : Int} (hX : wlX kt CB SB X) (hb : T.2.1 ≤ CB ∧ T.2.2.1 ≤ SB) (hI : wlJ Len x m o T H) (hL : Len ≤ 3072) (hi : 0 ≤ i ∧ i + 6 ≤ Len) (hb2 : T.2.1 + 20 ≤ CB ∧ T.2.2.1 + 500 ≤ SB)  (next : ∀ T' H', wlJ Len x m o T' H' → T'.2.1 ≤ T.2.1 + 20 → T'.2.2.1 ≤ T.2.2.1 + 500 → WL kt CB SB X 1653 (wlL i x m o) [] T' H') : WL kt CB SB X 1109 (wlL i x m o) [] T H := by
  obtain ⟨⟨hW, g0, gx, gm, go, hK, hr⟩, hXI, hY1, hY2⟩ := hI
  refine wl_of hX hb cL_1109 (rw_aload_n (pc' := 1110) (v := .ref x) rfl rfl rfl ?_)
  refine wl_of hX hb cL_1110 (rw_aload_n (pc' := 1111) (v := .ref 0) rfl rfl rfl ?_)
  refine wl_of hX hb cL_1111 (rw_iload (pc' := 1113) (z := i) rfl rfl ?_)
  refine wl_of hX hb cL_1113 (rw_iconst (pc' := 1114) rfl ?_)
  refine wl_of hX hb cL_1114 (rw_iadd (pc' := 1115) rfl ?_)
  refine wl_of hX hb cL_1115 (xa_I (so := 0) (pc' := 1116) (a := 0) hW g0 (wsh_s _) (by omega) (wty_s _ _) (by omega) (by omega) rfl (fun b4263 b4264 => ?_))
  refine wl_of hX hb cL_1116 (rw_aload_n (pc' := 1117) (v := .ref 0) rfl rfl rfl ?_)
  refine wl_of hX hb cL_1117 (rw_iload (pc' := 1119) (z := i) rfl rfl ?_)
  refine wl_of hX hb cL_1119 (rw_iconst (pc' := 1120) rfl ?_)
  refine wl_of hX hb cL_1120 (rw_iadd (pc' := 1121) rfl ?_)
  refine wl_of hX hb cL_1121 (xa_I (so := 0) (pc' := 1122) (a := 0) hW g0 (wsh_s _) (by omega) (wty_s _ _) (by omega) (by omega) rfl (fun b4265 b4266 => ?_))
  refine wl_of hX hb cL_1122 (rw_if_eq (p1 := 1129) (p2 := 1125) (by decide) rfl ⟨by omega, by omega⟩ (fun c4267 => ?_) (fun c4267 => ?_))
  · refine wl_of hX hb cL_1129 (rw_iconst (pc' := 1130) rfl ?_)
    obtain ⟨B, tc, tm, cu, dr, C8, e8, d8, n8, g8, ce8, e0, gtc, htc, em, gtm, htm, ecu, gcu, edr, gdr, hcu, hdr, hdec, hded, hsp, hC1, hC2, hcu8, hrb8, hcg8, hmn8, hE, hZ, hn8, hXA, hV8, hSG, ece8, gce8, hcen8, hhdr8, hknn8, -⟩ := hXI
    have hN3 := RB_n3 hrb8
    have hE13 : ∀ h : Nat, h < 24 → 0 ≤ e8 13 h ∧ e8 13 h ≤ 100 := fun k hk => by
      obtain ⟨s, h1, h2, h3⟩ := hcu8.1.2.2.1
      exact ⟨(h3 k hk).1, (h3 k hk).2.1⟩
    have hXW := hXA.1
    have hXN := hXA.2
    have hE0 : e8 0 3 = d8 0 3 ∧ e8 0 0 = d8 0 0 := by
      have h := hE 0 (by decide)
      exact ⟨congrFun h 3, congrFun h 0⟩
    have u4268 := CU_k hcu8
    have h4269 : CY T H cu (d8 0 3) g8 (H cu 17) := ⟨hcg8, rfl⟩
    have h4270 : RY T H m (d8 0 3) g8 (H m 32) := ⟨hmn8, rfl⟩
    obtain ⟨t9, ht9⟩ : ∃ t : Int, t = H x 9 := ⟨_, rfl⟩
    obtain ⟨y9, hy9⟩ : ∃ y : Int, y = 0 := ⟨_, rfl⟩
    obtain ⟨r4271, q4272, g4273⟩ := hW.ref gx (t' := 6) (n := 13) (j := 2) (p := 0) (q := 0) rfl (by decide) rfl
    refine wl_of hX hb cL_1130 (xc_V (pc' := 1133) (r := x) (as := [vI (H 0 ((i + 1).toNat)), vI 0]) (st := []) (lm_11_143) rfl rfl (Nat.le_of_ble_eq_true rfl) hW gx sh_1 (by decide) rfl (by decide) (u_119 (e := e8) (d := d8) (n := n8) hW gx ⟨by omega, by omega⟩ ⟨by decide, by decide⟩ ecu gcu q4272 g4273 ece8 gce8 (by assumption) (by assumption) (by omega) (by omega) (by omega) (by omega) hcu8 hcen8 hhdr8) (fun R4274 T4275 H4276 p4277 => ?_))
    obtain ⟨e4278, w4280, f4281, z4282, e4279, b4283, p4284⟩ := p4277
    subst e4278
    subst e4279
    rcases p4284 with ⟨a4285, a4286, a4287⟩ | ⟨a4288, a4289, a4290⟩
    · show WL _ _ _ _ 1133 [(4, vI i), (3, .ref o), (2, .ref m), (1, .ref x), (0, .ref 0)] [vI z4282] _ H4276
      refine wl_of hX hb cL_1133 (rw_aload_n (pc' := 1134) (v := .ref m) rfl rfl rfl ?_)
      refine wl_of hX hb cL_1134 (rw_aload_n (pc' := 1135) (v := .ref 0) rfl rfl rfl ?_)
      refine wl_of hX hb cL_1135 (rw_iload (pc' := 1137) (z := i) rfl rfl ?_)
      refine wl_of hX hb cL_1137 (rw_iconst (pc' := 1138) rfl ?_)
      refine wl_of hX hb cL_1138 (rw_iadd (pc' := 1139) rfl ?_)
      have k4293 : H4276 0 ((i + 1).toNat) = H 0 ((i + 1).toNat) := (f4281 0 ((i + 1).toNat) _ g0 (wmem_s rfl))
      refine wl_of hX hb cL_1139 (xa_I (so := 0) (pc' := 1140) (a := 0) w4280 g0 (wsh_s _) (by omega) (wty_s _ _) (by omega) (by omega) rfl (fun b4291 b4292 => ?_))
      refine wl_of hX hb cL_1140 (rw_aload_n (pc' := 1141) (v := .ref 0) rfl rfl rfl ?_)
      refine wl_of hX hb cL_1141 (rw_iload (pc' := 1143) (z := i) rfl rfl ?_)
      refine wl_of hX hb cL_1143 (rw_iconst (pc' := 1144) rfl ?_)
      refine wl_of hX hb cL_1144 (rw_iadd (pc' := 1145) rfl ?_)
      have k4296 : H4276 0 ((i + 2).toNat) = H 0 ((i + 2).toNat) := (f4281 0 ((i + 2).toNat) _ g0 (wmem_s rfl))
      refine wl_of hX hb cL_1145 (xa_I (so := 0) (pc' := 1146) (a := 0) w4280 g0 (wsh_s _) (by omega) (wty_s _ _) (by omega) (by omega) rfl (fun b4294 b4295 => ?_))
      refine wl_of hX hb cL_1146 (rw_if_eq (p1 := 1153) (p2 := 1149) (by decide) rfl ⟨by omega, by omega⟩ (fun c4297 => ?_) (fun c4297 => ?_))
      · refine wl_of hX hb cL_1153 (rw_iconst (pc' := 1154) rfl ?_)
        have k4298 : wKI H4276 m = wKI H m := (wKI_fr hW gm f4281 rfl)
        have k4299 : H4276 x 9 = H x 9 := (f4281 x 9 _ gx rfl)
        have k4300 : H4276 m 6 = H m 6 := (f4281 m 6 _ gm rfl)
        have k4301 : H4276 x 11 = H x 11 := (f4281 x 11 _ gx rfl)
        have k4302 : H4276 m 13 = H m 13 := (f4281 m 13 _ gm rfl)
        have k4303 : H4276 x 8 = H x 8 := (f4281 x 8 _ gx rfl)
        have k4304 : H4276 m 3 = H m 3 := (f4281 m 3 _ gm rfl)
        rw [show H4276 0 ((i + 1).toNat) = H 0 ((i + 1).toNat) by omega]
        have h4305 : RB T H4276 m e8 d8 := (RB_fr hW gm f4281 rfl hrb8)
        have h4306 : KNN T H4276 m e8 d8 := (KNN_fr hW gm f4281 rfl hknn8)
        refine wl_of hX hb cL_1154 (xc_V (pc' := 1157) (r := m) (as := [vI (H 0 ((i + 1).toNat)), vI 0]) (st := [vI z4282]) (lm_11_146) rfl rfl (Nat.le_of_ble_eq_true rfl) w4280 gm sh_42 (by decide) rfl (by decide) (u_265 (e := e8) (d := d8) w4280 gm ⟨by omega, by omega⟩ ⟨by decide, by decide⟩ (by omega) (by assumption) (by assumption) (by assumption) (by assumption) h4305 h4306) (fun R4307 T4308 H4309 p4310 => ?_))
        obtain ⟨e4311, w4313, f4314, z4315, e4312, b4316, p4317⟩ := p4310
        subst e4311
        subst e4312
        rcases p4317 with ⟨a4318, a4319, a4320, a4321⟩ | ⟨a4322, a4323, a4324, a4325⟩
        · show WL _ _ _ _ 1157 [(4, vI i), (3, .ref o), (2, .ref m), (1, .ref x), (0, .ref 0)] [vI z4315, vI z4282] _ H4309
          refine wl_of hX hb cL_1157 (rw_icmp_eq (p1 := 1653) (p2 := 1160) (by decide) rfl ⟨b4283.1, b4283.2⟩ ⟨b4316.1, b4316.2⟩ (fun c4326 => ?_) (fun c4326 => ?_))
          · have k4327 : H4309 x 9 = H4276 x 9 := (f4314 x 9 _ gx rfl)
            have k4328 : H4309 m 6 = H4276 m 6 := (f4314 m 6 _ gm rfl)
            have k4329 : H4309 x 11 = H4276 x 11 := (f4314 x 11 _ gx rfl)
            have k4330 : H4309 m 13 = H4276 m 13 := (f4314 m 13 _ gm rfl)
            have k4331 : H4309 x 8 = H4276 x 8 := (f4314 x 8 _ gx rfl)
            have k4332 : H4309 m 3 = H4276 m 3 := (f4314 m 3 _ gm rfl)
            have k4333 : H4309 x 0 = H x 0 := ((f4314 x 0 _ gx rfl).trans (f4281 x 0 _ gx rfl))
            have q4334 : H4309 x 0 = (tc : Int) := k4333.trans e0
            have k4335 : H4309 m 5 = H m 5 := ((f4314 m 5 _ gm rfl).trans (f4281 m 5 _ gm rfl))
            have q4336 : H4309 m 5 = (tm : Int) := k4335.trans em
            have k4337 : H4309 x 6 = H x 6 := ((f4314 x 6 _ gx rfl).trans (f4281 x 6 _ gx rfl))
            have q4338 : H4309 x 6 = (cu : Int) := k4337.trans ecu
            have k4339 : H4309 x 7 = H x 7 := ((f4314 x 7 _ gx rfl).trans (f4281 x 7 _ gx rfl))
            have q4340 : H4309 x 7 = (dr : Int) := k4339.trans edr
            have h4341 : CEN T H4309 ce8 e8 d8 := (CEN_fr w4280 gce8 f4314 rfl a4287)
            have h4342 : TP T H4309 tc B := (TP_fr w4280 gtc f4314 rfl (TP_fr hW gtc f4281 rfl htc))
            have h4343 : TM T H4309 tm B := (TM_fr w4280 gtm f4314 rfl (TM_fr hW gtm f4281 rfl htm))
            have h4344 : DD T H4309 cu  := (DD_fr w4280 gcu f4314 rfl (DD_fr hW gcu f4281 rfl hcu))
            have h4345 : DD T H4309 dr  := (DD_fr w4280 gdr f4314 rfl (DD_fr hW gdr f4281 rfl hdr))
            have h4346 : DE T H4309 cu  := (DE_fr w4280 gcu f4314 rfl (DE_fr hW gcu f4281 rfl hdec))
            have h4347 : DE T H4309 dr  := (DE_fr w4280 gdr f4314 rfl (DE_fr hW gdr f4281 rfl hded))
            have h4348 : SP T H4309 x C8 := (SP_fr w4280 gx f4314 rfl (SP_fr hW gx f4281 rfl hsp))
            have h4349 : CU T H4309 cu e8 d8 n8 := (CU_fr w4280 gcu f4314 rfl (CU_fr hW gcu f4281 rfl hcu8))
            have h4350 : CY T H4309 cu (d8 0 3) g8 (H cu 17) := (CY_fr w4280 gcu f4314 rfl (CY_fr hW gcu f4281 rfl h4269))
            have k4351 : H4309 x 3 = H x 3 := ((f4314 x 3 _ gx rfl).trans (f4281 x 3 _ gx rfl))
            have q4352 : H4309 x 3 = (ce8 : Int) := k4351.trans ece8
            have h4353 : HDR T H4309 ce8  := (HDR_fr w4280 gce8 f4314 rfl (HDR_fr hW gce8 f4281 rfl hhdr8))
            have h4354 : RY T H4309 m (d8 0 3) g8 (H m 32) := (RY_fr w4280 gm f4314 rfl (RY_fr hW gm f4281 rfl h4270))
            have h4355 : RB T H4309 m e8 d8 := (RB_fr w4280 gm f4314 rfl h4305)
            exact WL.loc hX (by simp) (next T H4309 ⟨⟨w4313, g0, gx, gm, go, by omega, by omega⟩, ⟨_, tc, tm, cu, dr, _, _, _, _, _, ce8, q4334, gtc, h4342, q4336, gtm, h4343, q4338, gcu, q4340, gdr, h4344, h4345, h4346, h4347, h4348, hC1, hC2, h4349, h4355, (h4350).1, (h4354).1, hE, hZ, (by omega), (by assumption), (by omega), (by first | assumption | exact SG_0), q4352, gce8, h4341, h4353, a4321, gm⟩, by omega, by omega⟩ (by omega) (by omega))
          · exfalso
            omega
        · show WL _ _ _ _ 1157 [(4, vI i), (3, .ref o), (2, .ref m), (1, .ref x), (0, .ref 0)] [vI z4315, vI z4282] _ H4309
          try have _u9 : z4282 = z4315 := XEX_1 (by assumption : XEX _ _ _ _ z4282) (by assumption)
          refine wl_of hX hb cL_1157 (rw_icmp_eq (p1 := 1653) (p2 := 1160) (by decide) rfl ⟨b4283.1, b4283.2⟩ ⟨b4316.1, b4316.2⟩ (fun c4356 => ?_) (fun c4356 => ?_))
          · have k4357 : H4309 x 9 = H4276 x 9 := (f4314 x 9 _ gx rfl)
            have k4358 : H4309 m 6 = H4276 m 6 := (f4314 m 6 _ gm rfl)
            have k4359 : H4309 x 11 = H4276 x 11 := (f4314 x 11 _ gx rfl)
            have k4360 : H4309 m 13 = H4276 m 13 := (f4314 m 13 _ gm rfl)
            have k4361 : H4309 x 8 = H4276 x 8 := (f4314 x 8 _ gx rfl)
            have k4362 : H4309 m 3 = H4276 m 3 := (f4314 m 3 _ gm rfl)
            have k4363 : H4309 x 0 = H x 0 := ((f4314 x 0 _ gx rfl).trans (f4281 x 0 _ gx rfl))
            have q4364 : H4309 x 0 = (tc : Int) := k4363.trans e0
            have k4365 : H4309 m 5 = H m 5 := ((f4314 m 5 _ gm rfl).trans (f4281 m 5 _ gm rfl))
            have q4366 : H4309 m 5 = (tm : Int) := k4365.trans em
            have k4367 : H4309 x 6 = H x 6 := ((f4314 x 6 _ gx rfl).trans (f4281 x 6 _ gx rfl))
            have q4368 : H4309 x 6 = (cu : Int) := k4367.trans ecu
            have k4369 : H4309 x 7 = H x 7 := ((f4314 x 7 _ gx rfl).trans (f4281 x 7 _ gx rfl))
            have q4370 : H4309 x 7 = (dr : Int) := k4369.trans edr
            have h4371 : CEN T H4309 ce8 e8 d8 := (CEN_fr w4280 gce8 f4314 rfl a4287)
            have h4372 : TP T H4309 tc B := (TP_fr w4280 gtc f4314 rfl (TP_fr hW gtc f4281 rfl htc))
            have h4373 : TM T H4309 tm B := (TM_fr w4280 gtm f4314 rfl (TM_fr hW gtm f4281 rfl htm))
            have h4374 : DD T H4309 cu  := (DD_fr w4280 gcu f4314 rfl (DD_fr hW gcu f4281 rfl hcu))
            have h4375 : DD T H4309 dr  := (DD_fr w4280 gdr f4314 rfl (DD_fr hW gdr f4281 rfl hdr))
            have h4376 : DE T H4309 cu  := (DE_fr w4280 gcu f4314 rfl (DE_fr hW gcu f4281 rfl hdec))
            have h4377 : DE T H4309 dr  := (DE_fr w4280 gdr f4314 rfl (DE_fr hW gdr f4281 rfl hded))
            have h4378 : SP T H4309 x C8 := (SP_fr w4280 gx f4314 rfl (SP_fr hW gx f4281 rfl hsp))
            have h4379 : CU T H4309 cu e8 d8 n8 := (CU_fr w4280 gcu f4314 rfl (CU_fr hW gcu f4281 rfl hcu8))
            have h4380 : CY T H4309 cu (d8 0 3) g8 (H cu 17) := (CY_fr w4280 gcu f4314 rfl (CY_fr hW gcu f4281 rfl h4269))
            have k4381 : H4309 x 3 = H x 3 := ((f4314 x 3 _ gx rfl).trans (f4281 x 3 _ gx rfl))
            have q4382 : H4309 x 3 = (ce8 : Int) := k4381.trans ece8
            have h4383 : HDR T H4309 ce8  := (HDR_fr w4280 gce8 f4314 rfl (HDR_fr hW gce8 f4281 rfl hhdr8))
            have h4384 : RY T H4309 m (d8 0 3) g8 (H m 32) := (RY_fr w4280 gm f4314 rfl (RY_fr hW gm f4281 rfl h4270))
            have h4385 : RB T H4309 m e8 d8 := (RB_fr w4280 gm f4314 rfl h4305)
            exact WL.loc hX (by simp) (next T H4309 ⟨⟨w4313, g0, gx, gm, go, by omega, by omega⟩, ⟨_, tc, tm, cu, dr, _, _, _, _, _, ce8, q4364, gtc, h4372, q4366, gtm, h4373, q4368, gcu, q4370, gdr, h4374, h4375, h4376, h4377, h4378, hC1, hC2, h4379, h4385, (h4380).1, (h4384).1, hE, hZ, (by omega), (by assumption), (by omega), (by first | assumption | exact SG_0), q4382, gce8, h4371, h4383, a4325, gm⟩, by omega, by omega⟩ (by omega) (by omega))
          · refine wl_of hX hb cL_1160 (rw_iconst (pc' := 1161) rfl ?_)
            exfalso
            omega
      · exfalso
        omega
    · show WL _ _ _ _ 1133 [(4, vI i), (3, .ref o), (2, .ref m), (1, .ref x), (0, .ref 0)] [vI z4282] _ H4276
      refine wl_of hX hb cL_1133 (rw_aload_n (pc' := 1134) (v := .ref m) rfl rfl rfl ?_)
      refine wl_of hX hb cL_1134 (rw_aload_n (pc' := 1135) (v := .ref 0) rfl rfl rfl ?_)
      refine wl_of hX hb cL_1135 (rw_iload (pc' := 1137) (z := i) rfl rfl ?_)
      refine wl_of hX hb cL_1137 (rw_iconst (pc' := 1138) rfl ?_)
      refine wl_of hX hb cL_1138 (rw_iadd (pc' := 1139) rfl ?_)
      have k4388 : H4276 0 ((i + 1).toNat) = H 0 ((i + 1).toNat) := (f4281 0 ((i + 1).toNat) _ g0 (wmem_s rfl))
      refine wl_of hX hb cL_1139 (xa_I (so := 0) (pc' := 1140) (a := 0) w4280 g0 (wsh_s _) (by omega) (wty_s _ _) (by omega) (by omega) rfl (fun b4386 b4387 => ?_))
      refine wl_of hX hb cL_1140 (rw_aload_n (pc' := 1141) (v := .ref 0) rfl rfl rfl ?_)
      refine wl_of hX hb cL_1141 (rw_iload (pc' := 1143) (z := i) rfl rfl ?_)
      refine wl_of hX hb cL_1143 (rw_iconst (pc' := 1144) rfl ?_)
      refine wl_of hX hb cL_1144 (rw_iadd (pc' := 1145) rfl ?_)
      have k4391 : H4276 0 ((i + 2).toNat) = H 0 ((i + 2).toNat) := (f4281 0 ((i + 2).toNat) _ g0 (wmem_s rfl))
      refine wl_of hX hb cL_1145 (xa_I (so := 0) (pc' := 1146) (a := 0) w4280 g0 (wsh_s _) (by omega) (wty_s _ _) (by omega) (by omega) rfl (fun b4389 b4390 => ?_))
      refine wl_of hX hb cL_1146 (rw_if_eq (p1 := 1153) (p2 := 1149) (by decide) rfl ⟨by omega, by omega⟩ (fun c4392 => ?_) (fun c4392 => ?_))
      · refine wl_of hX hb cL_1153 (rw_iconst (pc' := 1154) rfl ?_)
        have k4393 : wKI H4276 m = wKI H m := (wKI_fr hW gm f4281 rfl)
        have k4394 : H4276 x 9 = H x 9 := (f4281 x 9 _ gx rfl)
        have k4395 : H4276 m 6 = H m 6 := (f4281 m 6 _ gm rfl)
        have k4396 : H4276 x 11 = H x 11 := (f4281 x 11 _ gx rfl)
        have k4397 : H4276 m 13 = H m 13 := (f4281 m 13 _ gm rfl)
        have k4398 : H4276 x 8 = H x 8 := (f4281 x 8 _ gx rfl)
        have k4399 : H4276 m 3 = H m 3 := (f4281 m 3 _ gm rfl)
        rw [show H4276 0 ((i + 1).toNat) = H 0 ((i + 1).toNat) by omega]
        have h4400 : RB T H4276 m e8 d8 := (RB_fr hW gm f4281 rfl hrb8)
        have h4401 : KNN T H4276 m e8 d8 := (KNN_fr hW gm f4281 rfl hknn8)
        refine wl_of hX hb cL_1154 (xc_V (pc' := 1157) (r := m) (as := [vI (H 0 ((i + 1).toNat)), vI 0]) (st := [vI z4282]) (lm_11_146) rfl rfl (Nat.le_of_ble_eq_true rfl) w4280 gm sh_42 (by decide) rfl (by decide) (u_265 (e := e8) (d := d8) w4280 gm ⟨by omega, by omega⟩ ⟨by decide, by decide⟩ (by omega) (by assumption) (by assumption) (by assumption) (by assumption) h4400 h4401) (fun R4402 T4403 H4404 p4405 => ?_))
        obtain ⟨e4406, w4408, f4409, z4410, e4407, b4411, p4412⟩ := p4405
        subst e4406
        subst e4407
        rcases p4412 with ⟨a4413, a4414, a4415, a4416⟩ | ⟨a4417, a4418, a4419, a4420⟩
        · show WL _ _ _ _ 1157 [(4, vI i), (3, .ref o), (2, .ref m), (1, .ref x), (0, .ref 0)] [vI z4410, vI z4282] _ H4404
          refine wl_of hX hb cL_1157 (rw_icmp_eq (p1 := 1653) (p2 := 1160) (by decide) rfl ⟨b4283.1, b4283.2⟩ ⟨b4411.1, b4411.2⟩ (fun c4421 => ?_) (fun c4421 => ?_))
          · have k4422 : H4404 x 9 = H4276 x 9 := (f4409 x 9 _ gx rfl)
            have k4423 : H4404 m 6 = H4276 m 6 := (f4409 m 6 _ gm rfl)
            have k4424 : H4404 x 11 = H4276 x 11 := (f4409 x 11 _ gx rfl)
            have k4425 : H4404 m 13 = H4276 m 13 := (f4409 m 13 _ gm rfl)
            have k4426 : H4404 x 8 = H4276 x 8 := (f4409 x 8 _ gx rfl)
            have k4427 : H4404 m 3 = H4276 m 3 := (f4409 m 3 _ gm rfl)
            have k4428 : H4404 x 0 = H x 0 := ((f4409 x 0 _ gx rfl).trans (f4281 x 0 _ gx rfl))
            have q4429 : H4404 x 0 = (tc : Int) := k4428.trans e0
            have k4430 : H4404 m 5 = H m 5 := ((f4409 m 5 _ gm rfl).trans (f4281 m 5 _ gm rfl))
            have q4431 : H4404 m 5 = (tm : Int) := k4430.trans em
            have k4432 : H4404 x 6 = H x 6 := ((f4409 x 6 _ gx rfl).trans (f4281 x 6 _ gx rfl))
            have q4433 : H4404 x 6 = (cu : Int) := k4432.trans ecu
            have k4434 : H4404 x 7 = H x 7 := ((f4409 x 7 _ gx rfl).trans (f4281 x 7 _ gx rfl))
            have q4435 : H4404 x 7 = (dr : Int) := k4434.trans edr
            have h4436 : CEN T H4404 ce8 e8 d8 := (CEN_fr w4280 gce8 f4409 rfl a4290)
            have h4437 : TP T H4404 tc B := (TP_fr w4280 gtc f4409 rfl (TP_fr hW gtc f4281 rfl htc))
            have h4438 : TM T H4404 tm B := (TM_fr w4280 gtm f4409 rfl (TM_fr hW gtm f4281 rfl htm))
            have h4439 : DD T H4404 cu  := (DD_fr w4280 gcu f4409 rfl (DD_fr hW gcu f4281 rfl hcu))
            have h4440 : DD T H4404 dr  := (DD_fr w4280 gdr f4409 rfl (DD_fr hW gdr f4281 rfl hdr))
            have h4441 : DE T H4404 cu  := (DE_fr w4280 gcu f4409 rfl (DE_fr hW gcu f4281 rfl hdec))
            have h4442 : DE T H4404 dr  := (DE_fr w4280 gdr f4409 rfl (DE_fr hW gdr f4281 rfl hded))
            have h4443 : SP T H4404 x C8 := (SP_fr w4280 gx f4409 rfl (SP_fr hW gx f4281 rfl hsp))
            have h4444 : CU T H4404 cu e8 d8 n8 := (CU_fr w4280 gcu f4409 rfl (CU_fr hW gcu f4281 rfl hcu8))
            have h4445 : CY T H4404 cu (d8 0 3) g8 (H cu 17) := (CY_fr w4280 gcu f4409 rfl (CY_fr hW gcu f4281 rfl h4269))
            have k4446 : H4404 x 3 = H x 3 := ((f4409 x 3 _ gx rfl).trans (f4281 x 3 _ gx rfl))
            have q4447 : H4404 x 3 = (ce8 : Int) := k4446.trans ece8
            have h4448 : HDR T H4404 ce8  := (HDR_fr w4280 gce8 f4409 rfl (HDR_fr hW gce8 f4281 rfl hhdr8))
            have h4449 : RY T H4404 m (d8 0 3) g8 (H m 32) := (RY_fr w4280 gm f4409 rfl (RY_fr hW gm f4281 rfl h4270))
            have h4450 : RB T H4404 m e8 d8 := (RB_fr w4280 gm f4409 rfl h4400)
            exact WL.loc hX (by simp) (next T H4404 ⟨⟨w4408, g0, gx, gm, go, by omega, by omega⟩, ⟨_, tc, tm, cu, dr, _, _, _, _, _, ce8, q4429, gtc, h4437, q4431, gtm, h4438, q4433, gcu, q4435, gdr, h4439, h4440, h4441, h4442, h4443, hC1, hC2, h4444, h4450, (h4445).1, (h4449).1, hE, hZ, (by omega), (by assumption), (by omega), (by first | assumption | exact SG_0), q4447, gce8, h4436, h4448, a4416, gm⟩, by omega, by omega⟩ (by omega) (by omega))
          · refine wl_of hX hb cL_1160 (rw_iconst (pc' := 1161) rfl ?_)
            exfalso
            omega
        · show WL _ _ _ _ 1157 [(4, vI i), (3, .ref o), (2, .ref m), (1, .ref x), (0, .ref 0)] [vI z4410, vI z4282] _ H4404
          try have _u9 : z4282 = z4410 := XEX_1 (by assumption : XEX _ _ _ _ z4282) (by assumption)
          refine wl_of hX hb cL_1157 (rw_icmp_eq (p1 := 1653) (p2 := 1160) (by decide) rfl ⟨b4283.1, b4283.2⟩ ⟨b4411.1, b4411.2⟩ (fun c4451 => ?_) (fun c4451 => ?_))
          · have k4452 : H4404 x 9 = H4276 x 9 := (f4409 x 9 _ gx rfl)
            have k4453 : H4404 m 6 = H4276 m 6 := (f4409 m 6 _ gm rfl)
            have k4454 : H4404 x 11 = H4276 x 11 := (f4409 x 11 _ gx rfl)
            have k4455 : H4404 m 13 = H4276 m 13 := (f4409 m 13 _ gm rfl)
            have k4456 : H4404 x 8 = H4276 x 8 := (f4409 x 8 _ gx rfl)
            have k4457 : H4404 m 3 = H4276 m 3 := (f4409 m 3 _ gm rfl)
            have k4458 : H4404 x 0 = H x 0 := ((f4409 x 0 _ gx rfl).trans (f4281 x 0 _ gx rfl))
            have q4459 : H4404 x 0 = (tc : Int) := k4458.trans e0
            have k4460 : H4404 m 5 = H m 5 := ((f4409 m 5 _ gm rfl).trans (f4281 m 5 _ gm rfl))
            have q4461 : H4404 m 5 = (tm : Int) := k4460.trans em
            have k4462 : H4404 x 6 = H x 6 := ((f4409 x 6 _ gx rfl).trans (f4281 x 6 _ gx rfl))
            have q4463 : H4404 x 6 = (cu : Int) := k4462.trans ecu
            have k4464 : H4404 x 7 = H x 7 := ((f4409 x 7 _ gx rfl).trans (f4281 x 7 _ gx rfl))
            have q4465 : H4404 x 7 = (dr : Int) := k4464.trans edr
            have h4466 : CEN T H4404 ce8 e8 d8 := (CEN_fr w4280 gce8 f4409 rfl a4290)
            have h4467 : TP T H4404 tc B := (TP_fr w4280 gtc f4409 rfl (TP_fr hW gtc f4281 rfl htc))
            have h4468 : TM T H4404 tm B := (TM_fr w4280 gtm f4409 rfl (TM_fr hW gtm f4281 rfl htm))
            have h4469 : DD T H4404 cu  := (DD_fr w4280 gcu f4409 rfl (DD_fr hW gcu f4281 rfl hcu))
            have h4470 : DD T H4404 dr  := (DD_fr w4280 gdr f4409 rfl (DD_fr hW gdr f4281 rfl hdr))
            have h4471 : DE T H4404 cu  := (DE_fr w4280 gcu f4409 rfl (DE_fr hW gcu f4281 rfl hdec))
            have h4472 : DE T H4404 dr  := (DE_fr w4280 gdr f4409 rfl (DE_fr hW gdr f4281 rfl hded))
            have h4473 : SP T H4404 x C8 := (SP_fr w4280 gx f4409 rfl (SP_fr hW gx f4281 rfl hsp))
            have h4474 : CU T H4404 cu e8 d8 n8 := (CU_fr w4280 gcu f4409 rfl (CU_fr hW gcu f4281 rfl hcu8))
            have h4475 : CY T H4404 cu (d8 0 3) g8 (H cu 17) := (CY_fr w4280 gcu f4409 rfl (CY_fr hW gcu f4281 rfl h4269))
            have k4476 : H4404 x 3 = H x 3 := ((f4409 x 3 _ gx rfl).trans (f4281 x 3 _ gx rfl))
            have q4477 : H4404 x 3 = (ce8 : Int) := k4476.trans ece8
            have h4478 : HDR T H4404 ce8  := (HDR_fr w4280 gce8 f4409 rfl (HDR_fr hW gce8 f4281 rfl hhdr8))
            have h4479 : RY T H4404 m (d8 0 3) g8 (H m 32) := (RY_fr w4280 gm f4409 rfl (RY_fr hW gm f4281 rfl h4270))
            have h4480 : RB T H4404 m e8 d8 := (RB_fr w4280 gm f4409 rfl h4400)
            exact WL.loc hX (by simp) (next T H4404 ⟨⟨w4408, g0, gx, gm, go, by omega, by omega⟩, ⟨_, tc, tm, cu, dr, _, _, _, _, _, ce8, q4459, gtc, h4467, q4461, gtm, h4468, q4463, gcu, q4465, gdr, h4469, h4470, h4471, h4472, h4473, hC1, hC2, h4474, h4480, (h4475).1, (h4479).1, hE, hZ, (by omega), (by assumption), (by omega), (by first | assumption | exact SG_0), q4477, gce8, h4466, h4478, a4420, gm⟩, by omega, by omega⟩ (by omega) (by omega))
          · refine wl_of hX hb cL_1160 (rw_iconst (pc' := 1161) rfl ?_)
            exfalso
            omega
      · exfalso
        omega
  · refine wl_of hX hb cL_1125 (rw_iconst (pc' := 1126) rfl ?_)
    refine wl_of hX hb cL_1126 (rw_goto (p1 := 1130) (by decide) ?_)
    obtain ⟨B, tc, tm, cu, dr, C8, e8, d8, n8, g8, ce8, e0, gtc, htc, em, gtm, htm, ecu, gcu, edr, gdr, hcu, hdr, hdec, hded, hsp, hC1, hC2, hcu8, hrb8, hcg8, hmn8, hE, hZ, hn8, hXA, hV8, hSG, ece8, gce8, hcen8, hhdr8, hknn8, -⟩ := hXI
    have hN3 := RB_n3 hrb8
    have hE13 : ∀ h : Nat, h < 24 → 0 ≤ e8 13 h ∧ e8 13 h ≤ 100 := fun k hk => by
      obtain ⟨s, h1, h2, h3⟩ := hcu8.1.2.2.1
      exact ⟨(h3 k hk).1, (h3 k hk).2.1⟩
    have hXW := hXA.1
    have hXN := hXA.2
    have hE0 : e8 0 3 = d8 0 3 ∧ e8 0 0 = d8 0 0 := by
      have h := hE 0 (by decide)
      exact ⟨congrFun h 3, congrFun h 0⟩
    have u4481 := CU_k hcu8
    have h4482 : CY T H cu (d8 0 3) g8 (H cu 17) := ⟨hcg8, rfl⟩
    have h4483 : RY T H m (d8 0 3) g8 (H m 32) := ⟨hmn8, rfl⟩
    obtain ⟨t9, ht9⟩ : ∃ t : Int, t = H x 9 := ⟨_, rfl⟩
    obtain ⟨y9, hy9⟩ : ∃ y : Int, y = 1 := ⟨_, rfl⟩
    obtain ⟨r4484, q4485, g4486⟩ := hW.ref gx (t' := 6) (n := 13) (j := 2) (p := 0) (q := 0) rfl (by decide) rfl
    refine wl_of hX hb cL_1130 (xc_V (pc' := 1133) (r := x) (as := [vI (H 0 ((i + 1).toNat)), vI 1]) (st := []) (lm_11_143) rfl rfl (Nat.le_of_ble_eq_true rfl) hW gx sh_1 (by decide) rfl (by decide) (u_119 (e := e8) (d := d8) (n := n8) hW gx ⟨by omega, by omega⟩ ⟨by decide, by decide⟩ ecu gcu q4485 g4486 ece8 gce8 (by assumption) (by assumption) (by omega) (by omega) (by omega) (by omega) hcu8 hcen8 hhdr8) (fun R4487 T4488 H4489 p4490 => ?_))
    obtain ⟨e4491, w4493, f4494, z4495, e4492, b4496, p4497⟩ := p4490
    subst e4491
    subst e4492
    rcases p4497 with ⟨a4498, a4499, a4500⟩ | ⟨a4501, a4502, a4503⟩
    · show WL _ _ _ _ 1133 [(4, vI i), (3, .ref o), (2, .ref m), (1, .ref x), (0, .ref 0)] [vI z4495] _ H4489
      refine wl_of hX hb cL_1133 (rw_aload_n (pc' := 1134) (v := .ref m) rfl rfl rfl ?_)
      refine wl_of hX hb cL_1134 (rw_aload_n (pc' := 1135) (v := .ref 0) rfl rfl rfl ?_)
      refine wl_of hX hb cL_1135 (rw_iload (pc' := 1137) (z := i) rfl rfl ?_)
      refine wl_of hX hb cL_1137 (rw_iconst (pc' := 1138) rfl ?_)
      refine wl_of hX hb cL_1138 (rw_iadd (pc' := 1139) rfl ?_)
      have k4506 : H4489 0 ((i + 1).toNat) = H 0 ((i + 1).toNat) := (f4494 0 ((i + 1).toNat) _ g0 (wmem_s rfl))
      refine wl_of hX hb cL_1139 (xa_I (so := 0) (pc' := 1140) (a := 0) w4493 g0 (wsh_s _) (by omega) (wty_s _ _) (by omega) (by omega) rfl (fun b4504 b4505 => ?_))
      refine wl_of hX hb cL_1140 (rw_aload_n (pc' := 1141) (v := .ref 0) rfl rfl rfl ?_)
      refine wl_of hX hb cL_1141 (rw_iload (pc' := 1143) (z := i) rfl rfl ?_)
      refine wl_of hX hb cL_1143 (rw_iconst (pc' := 1144) rfl ?_)
      refine wl_of hX hb cL_1144 (rw_iadd (pc' := 1145) rfl ?_)
      have k4509 : H4489 0 ((i + 2).toNat) = H 0 ((i + 2).toNat) := (f4494 0 ((i + 2).toNat) _ g0 (wmem_s rfl))
      refine wl_of hX hb cL_1145 (xa_I (so := 0) (pc' := 1146) (a := 0) w4493 g0 (wsh_s _) (by omega) (wty_s _ _) (by omega) (by omega) rfl (fun b4507 b4508 => ?_))
      refine wl_of hX hb cL_1146 (rw_if_eq (p1 := 1153) (p2 := 1149) (by decide) rfl ⟨by omega, by omega⟩ (fun c4510 => ?_) (fun c4510 => ?_))
      · refine wl_of hX hb cL_1153 (rw_iconst (pc' := 1154) rfl ?_)
        have k4511 : wKI H4489 m = wKI H m := (wKI_fr hW gm f4494 rfl)
        have k4512 : H4489 x 9 = H x 9 := (f4494 x 9 _ gx rfl)
        have k4513 : H4489 m 6 = H m 6 := (f4494 m 6 _ gm rfl)
        have k4514 : H4489 x 11 = H x 11 := (f4494 x 11 _ gx rfl)
        have k4515 : H4489 m 13 = H m 13 := (f4494 m 13 _ gm rfl)
        have k4516 : H4489 x 8 = H x 8 := (f4494 x 8 _ gx rfl)
        have k4517 : H4489 m 3 = H m 3 := (f4494 m 3 _ gm rfl)
        rw [show H4489 0 ((i + 1).toNat) = H 0 ((i + 1).toNat) by omega]
        have h4518 : RB T H4489 m e8 d8 := (RB_fr hW gm f4494 rfl hrb8)
        have h4519 : KNN T H4489 m e8 d8 := (KNN_fr hW gm f4494 rfl hknn8)
        refine wl_of hX hb cL_1154 (xc_V (pc' := 1157) (r := m) (as := [vI (H 0 ((i + 1).toNat)), vI 0]) (st := [vI z4495]) (lm_11_146) rfl rfl (Nat.le_of_ble_eq_true rfl) w4493 gm sh_42 (by decide) rfl (by decide) (u_265 (e := e8) (d := d8) w4493 gm ⟨by omega, by omega⟩ ⟨by decide, by decide⟩ (by omega) (by assumption) (by assumption) (by assumption) (by assumption) h4518 h4519) (fun R4520 T4521 H4522 p4523 => ?_))
        obtain ⟨e4524, w4526, f4527, z4528, e4525, b4529, p4530⟩ := p4523
        subst e4524
        subst e4525
        rcases p4530 with ⟨a4531, a4532, a4533, a4534⟩ | ⟨a4535, a4536, a4537, a4538⟩
        · show WL _ _ _ _ 1157 [(4, vI i), (3, .ref o), (2, .ref m), (1, .ref x), (0, .ref 0)] [vI z4528, vI z4495] _ H4522
          refine wl_of hX hb cL_1157 (rw_icmp_eq (p1 := 1653) (p2 := 1160) (by decide) rfl ⟨b4496.1, b4496.2⟩ ⟨b4529.1, b4529.2⟩ (fun c4539 => ?_) (fun c4539 => ?_))
          · have k4540 : H4522 x 9 = H4489 x 9 := (f4527 x 9 _ gx rfl)
            have k4541 : H4522 m 6 = H4489 m 6 := (f4527 m 6 _ gm rfl)
            have k4542 : H4522 x 11 = H4489 x 11 := (f4527 x 11 _ gx rfl)
            have k4543 : H4522 m 13 = H4489 m 13 := (f4527 m 13 _ gm rfl)
            have k4544 : H4522 x 8 = H4489 x 8 := (f4527 x 8 _ gx rfl)
            have k4545 : H4522 m 3 = H4489 m 3 := (f4527 m 3 _ gm rfl)
            have k4546 : H4522 x 0 = H x 0 := ((f4527 x 0 _ gx rfl).trans (f4494 x 0 _ gx rfl))
            have q4547 : H4522 x 0 = (tc : Int) := k4546.trans e0
            have k4548 : H4522 m 5 = H m 5 := ((f4527 m 5 _ gm rfl).trans (f4494 m 5 _ gm rfl))
            have q4549 : H4522 m 5 = (tm : Int) := k4548.trans em
            have k4550 : H4522 x 6 = H x 6 := ((f4527 x 6 _ gx rfl).trans (f4494 x 6 _ gx rfl))
            have q4551 : H4522 x 6 = (cu : Int) := k4550.trans ecu
            have k4552 : H4522 x 7 = H x 7 := ((f4527 x 7 _ gx rfl).trans (f4494 x 7 _ gx rfl))
            have q4553 : H4522 x 7 = (dr : Int) := k4552.trans edr
            have h4554 : CEN T H4522 ce8 e8 d8 := (CEN_fr w4493 gce8 f4527 rfl a4500)
            have h4555 : TP T H4522 tc B := (TP_fr w4493 gtc f4527 rfl (TP_fr hW gtc f4494 rfl htc))
            have h4556 : TM T H4522 tm B := (TM_fr w4493 gtm f4527 rfl (TM_fr hW gtm f4494 rfl htm))
            have h4557 : DD T H4522 cu  := (DD_fr w4493 gcu f4527 rfl (DD_fr hW gcu f4494 rfl hcu))
            have h4558 : DD T H4522 dr  := (DD_fr w4493 gdr f4527 rfl (DD_fr hW gdr f4494 rfl hdr))
            have h4559 : DE T H4522 cu  := (DE_fr w4493 gcu f4527 rfl (DE_fr hW gcu f4494 rfl hdec))
            have h4560 : DE T H4522 dr  := (DE_fr w4493 gdr f4527 rfl (DE_fr hW gdr f4494 rfl hded))
            have h4561 : SP T H4522 x C8 := (SP_fr w4493 gx f4527 rfl (SP_fr hW gx f4494 rfl hsp))
            have h4562 : CU T H4522 cu e8 d8 n8 := (CU_fr w4493 gcu f4527 rfl (CU_fr hW gcu f4494 rfl hcu8))
            have h4563 : CY T H4522 cu (d8 0 3) g8 (H cu 17) := (CY_fr w4493 gcu f4527 rfl (CY_fr hW gcu f4494 rfl h4482))
            have k4564 : H4522 x 3 = H x 3 := ((f4527 x 3 _ gx rfl).trans (f4494 x 3 _ gx rfl))
            have q4565 : H4522 x 3 = (ce8 : Int) := k4564.trans ece8
            have h4566 : HDR T H4522 ce8  := (HDR_fr w4493 gce8 f4527 rfl (HDR_fr hW gce8 f4494 rfl hhdr8))
            have h4567 : RY T H4522 m (d8 0 3) g8 (H m 32) := (RY_fr w4493 gm f4527 rfl (RY_fr hW gm f4494 rfl h4483))
            have h4568 : RB T H4522 m e8 d8 := (RB_fr w4493 gm f4527 rfl h4518)
            exact WL.loc hX (by simp) (next T H4522 ⟨⟨w4526, g0, gx, gm, go, by omega, by omega⟩, ⟨_, tc, tm, cu, dr, _, _, _, _, _, ce8, q4547, gtc, h4555, q4549, gtm, h4556, q4551, gcu, q4553, gdr, h4557, h4558, h4559, h4560, h4561, hC1, hC2, h4562, h4568, (h4563).1, (h4567).1, hE, hZ, (by omega), (by assumption), (by omega), (by first | assumption | exact SG_0), q4565, gce8, h4554, h4566, a4534, gm⟩, by omega, by omega⟩ (by omega) (by omega))
          · exfalso
            omega
        · show WL _ _ _ _ 1157 [(4, vI i), (3, .ref o), (2, .ref m), (1, .ref x), (0, .ref 0)] [vI z4528, vI z4495] _ H4522
          try have _u9 : z4495 = z4528 := XEX_1 (by assumption : XEX _ _ _ _ z4495) (by assumption)
          refine wl_of hX hb cL_1157 (rw_icmp_eq (p1 := 1653) (p2 := 1160) (by decide) rfl ⟨b4496.1, b4496.2⟩ ⟨b4529.1, b4529.2⟩ (fun c4569 => ?_) (fun c4569 => ?_))
          · have k4570 : H4522 x 9 = H4489 x 9 := (f4527 x 9 _ gx rfl)
            have k4571 : H4522 m 6 = H4489 m 6 := (f4527 m 6 _ gm rfl)
            have k4572 : H4522 x 11 = H4489 x 11 := (f4527 x 11 _ gx rfl)
            have k4573 : H4522 m 13 = H4489 m 13 := (f4527 m 13 _ gm rfl)
            have k4574 : H4522 x 8 = H4489 x 8 := (f4527 x 8 _ gx rfl)
            have k4575 : H4522 m 3 = H4489 m 3 := (f4527 m 3 _ gm rfl)
            have k4576 : H4522 x 0 = H x 0 := ((f4527 x 0 _ gx rfl).trans (f4494 x 0 _ gx rfl))
            have q4577 : H4522 x 0 = (tc : Int) := k4576.trans e0
            have k4578 : H4522 m 5 = H m 5 := ((f4527 m 5 _ gm rfl).trans (f4494 m 5 _ gm rfl))
            have q4579 : H4522 m 5 = (tm : Int) := k4578.trans em
            have k4580 : H4522 x 6 = H x 6 := ((f4527 x 6 _ gx rfl).trans (f4494 x 6 _ gx rfl))
            have q4581 : H4522 x 6 = (cu : Int) := k4580.trans ecu
            have k4582 : H4522 x 7 = H x 7 := ((f4527 x 7 _ gx rfl).trans (f4494 x 7 _ gx rfl))
            have q4583 : H4522 x 7 = (dr : Int) := k4582.trans edr
            have h4584 : CEN T H4522 ce8 e8 d8 := (CEN_fr w4493 gce8 f4527 rfl a4500)
            have h4585 : TP T H4522 tc B := (TP_fr w4493 gtc f4527 rfl (TP_fr hW gtc f4494 rfl htc))
            have h4586 : TM T H4522 tm B := (TM_fr w4493 gtm f4527 rfl (TM_fr hW gtm f4494 rfl htm))
            have h4587 : DD T H4522 cu  := (DD_fr w4493 gcu f4527 rfl (DD_fr hW gcu f4494 rfl hcu))
            have h4588 : DD T H4522 dr  := (DD_fr w4493 gdr f4527 rfl (DD_fr hW gdr f4494 rfl hdr))
            have h4589 : DE T H4522 cu  := (DE_fr w4493 gcu f4527 rfl (DE_fr hW gcu f4494 rfl hdec))
            have h4590 : DE T H4522 dr  := (DE_fr w4493 gdr f4527 rfl (DE_fr hW gdr f4494 rfl hded))
            have h4591 : SP T H4522 x C8 := (SP_fr w4493 gx f4527 rfl (SP_fr hW gx f4494 rfl hsp))
            have h4592 : CU T H4522 cu e8 d8 n8 := (CU_fr w4493 gcu f4527 rfl (CU_fr hW gcu f4494 rfl hcu8))
            have h4593 : CY T H4522 cu (d8 0 3) g8 (H cu 17) := (CY_fr w4493 gcu f4527 rfl (CY_fr hW gcu f4494 rfl h4482))
            have k4594 : H4522 x 3 = H x 3 := ((f4527 x 3 _ gx rfl).trans (f4494 x 3 _ gx rfl))
            have q4595 : H4522 x 3 = (ce8 : Int) := k4594.trans ece8
            have h4596 : HDR T H4522 ce8  := (HDR_fr w4493 gce8 f4527 rfl (HDR_fr hW gce8 f4494 rfl hhdr8))
            have h4597 : RY T H4522 m (d8 0 3) g8 (H m 32) := (RY_fr w4493 gm f4527 rfl (RY_fr hW gm f4494 rfl h4483))
            have h4598 : RB T H4522 m e8 d8 := (RB_fr w4493 gm f4527 rfl h4518)
            exact WL.loc hX (by simp) (next T H4522 ⟨⟨w4526, g0, gx, gm, go, by omega, by omega⟩, ⟨_, tc, tm, cu, dr, _, _, _, _, _, ce8, q4577, gtc, h4585, q4579, gtm, h4586, q4581, gcu, q4583, gdr, h4587, h4588, h4589, h4590, h4591, hC1, hC2, h4592, h4598, (h4593).1, (h4597).1, hE, hZ, (by omega), (by assumption), (by omega), (by first | assumption | exact SG_0), q4595, gce8, h4584, h4596, a4538, gm⟩, by omega, by omega⟩ (by omega) (by omega))
          · refine wl_of hX hb cL_1160 (rw_iconst (pc' := 1161) rfl ?_)
            exfalso
            omega
      · refine wl_of hX hb cL_1149 (rw_iconst (pc' := 1150) rfl ?_)
        refine wl_of hX hb cL_1150 (rw_goto (p1 := 1154) (by decide) ?_)
        have k4599 : wKI H4489 m = wKI H m := (wKI_fr hW gm f4494 rfl)
        have k4600 : H4489 x 9 = H x 9 := (f4494 x 9 _ gx rfl)
        have k4601 : H4489 m 6 = H m 6 := (f4494 m 6 _ gm rfl)
        have k4602 : H4489 x 11 = H x 11 := (f4494 x 11 _ gx rfl)
        have k4603 : H4489 m 13 = H m 13 := (f4494 m 13 _ gm rfl)
        have k4604 : H4489 x 8 = H x 8 := (f4494 x 8 _ gx rfl)
        have k4605 : H4489 m 3 = H m 3 := (f4494 m 3 _ gm rfl)
        rw [show H4489 0 ((i + 1).toNat) = H 0 ((i + 1).toNat) by omega]
        have h4606 : RB T H4489 m e8 d8 := (RB_fr hW gm f4494 rfl hrb8)
        have h4607 : KNN T H4489 m e8 d8 := (KNN_fr hW gm f4494 rfl hknn8)
        refine wl_of hX hb cL_1154 (xc_V (pc' := 1157) (r := m) (as := [vI (H 0 ((i + 1).toNat)), vI 1]) (st := [vI z4495]) (lm_11_146) rfl rfl (Nat.le_of_ble_eq_true rfl) w4493 gm sh_42 (by decide) rfl (by decide) (u_265 (e := e8) (d := d8) w4493 gm ⟨by omega, by omega⟩ ⟨by decide, by decide⟩ (by omega) (by assumption) (by assumption) (by assumption) (by assumption) h4606 h4607) (fun R4608 T4609 H4610 p4611 => ?_))
        obtain ⟨e4612, w4614, f4615, z4616, e4613, b4617, p4618⟩ := p4611
        subst e4612
        subst e4613
        rcases p4618 with ⟨a4619, a4620, a4621, a4622⟩ | ⟨a4623, a4624, a4625, a4626⟩
        · show WL _ _ _ _ 1157 [(4, vI i), (3, .ref o), (2, .ref m), (1, .ref x), (0, .ref 0)] [vI z4616, vI z4495] _ H4610
          refine wl_of hX hb cL_1157 (rw_icmp_eq (p1 := 1653) (p2 := 1160) (by decide) rfl ⟨b4496.1, b4496.2⟩ ⟨b4617.1, b4617.2⟩ (fun c4627 => ?_) (fun c4627 => ?_))
          · have k4628 : H4610 x 9 = H4489 x 9 := (f4615 x 9 _ gx rfl)
            have k4629 : H4610 m 6 = H4489 m 6 := (f4615 m 6 _ gm rfl)
            have k4630 : H4610 x 11 = H4489 x 11 := (f4615 x 11 _ gx rfl)
            have k4631 : H4610 m 13 = H4489 m 13 := (f4615 m 13 _ gm rfl)
            have k4632 : H4610 x 8 = H4489 x 8 := (f4615 x 8 _ gx rfl)
            have k4633 : H4610 m 3 = H4489 m 3 := (f4615 m 3 _ gm rfl)
            have k4634 : H4610 x 0 = H x 0 := ((f4615 x 0 _ gx rfl).trans (f4494 x 0 _ gx rfl))
            have q4635 : H4610 x 0 = (tc : Int) := k4634.trans e0
            have k4636 : H4610 m 5 = H m 5 := ((f4615 m 5 _ gm rfl).trans (f4494 m 5 _ gm rfl))
            have q4637 : H4610 m 5 = (tm : Int) := k4636.trans em
            have k4638 : H4610 x 6 = H x 6 := ((f4615 x 6 _ gx rfl).trans (f4494 x 6 _ gx rfl))
            have q4639 : H4610 x 6 = (cu : Int) := k4638.trans ecu
            have k4640 : H4610 x 7 = H x 7 := ((f4615 x 7 _ gx rfl).trans (f4494 x 7 _ gx rfl))
            have q4641 : H4610 x 7 = (dr : Int) := k4640.trans edr
            have h4642 : CEN T H4610 ce8 e8 d8 := (CEN_fr w4493 gce8 f4615 rfl a4500)
            have h4643 : TP T H4610 tc B := (TP_fr w4493 gtc f4615 rfl (TP_fr hW gtc f4494 rfl htc))
            have h4644 : TM T H4610 tm B := (TM_fr w4493 gtm f4615 rfl (TM_fr hW gtm f4494 rfl htm))
            have h4645 : DD T H4610 cu  := (DD_fr w4493 gcu f4615 rfl (DD_fr hW gcu f4494 rfl hcu))
            have h4646 : DD T H4610 dr  := (DD_fr w4493 gdr f4615 rfl (DD_fr hW gdr f4494 rfl hdr))
            have h4647 : DE T H4610 cu  := (DE_fr w4493 gcu f4615 rfl (DE_fr hW gcu f4494 rfl hdec))
            have h4648 : DE T H4610 dr  := (DE_fr w4493 gdr f4615 rfl (DE_fr hW gdr f4494 rfl hded))
            have h4649 : SP T H4610 x C8 := (SP_fr w4493 gx f4615 rfl (SP_fr hW gx f4494 rfl hsp))
            have h4650 : CU T H4610 cu e8 d8 n8 := (CU_fr w4493 gcu f4615 rfl (CU_fr hW gcu f4494 rfl hcu8))
            have h4651 : CY T H4610 cu (d8 0 3) g8 (H cu 17) := (CY_fr w4493 gcu f4615 rfl (CY_fr hW gcu f4494 rfl h4482))
            have k4652 : H4610 x 3 = H x 3 := ((f4615 x 3 _ gx rfl).trans (f4494 x 3 _ gx rfl))
            have q4653 : H4610 x 3 = (ce8 : Int) := k4652.trans ece8
            have h4654 : HDR T H4610 ce8  := (HDR_fr w4493 gce8 f4615 rfl (HDR_fr hW gce8 f4494 rfl hhdr8))
            have h4655 : RY T H4610 m (d8 0 3) g8 (H m 32) := (RY_fr w4493 gm f4615 rfl (RY_fr hW gm f4494 rfl h4483))
            have h4656 : RB T H4610 m e8 d8 := (RB_fr w4493 gm f4615 rfl h4606)
            exact WL.loc hX (by simp) (next T H4610 ⟨⟨w4614, g0, gx, gm, go, by omega, by omega⟩, ⟨_, tc, tm, cu, dr, _, _, _, _, _, ce8, q4635, gtc, h4643, q4637, gtm, h4644, q4639, gcu, q4641, gdr, h4645, h4646, h4647, h4648, h4649, hC1, hC2, h4650, h4656, (h4651).1, (h4655).1, hE, hZ, (by omega), (by assumption), (by omega), (by first | assumption | exact SG_0), q4653, gce8, h4642, h4654, a4622, gm⟩, by omega, by omega⟩ (by omega) (by omega))
          · exfalso
            omega
        · show WL _ _ _ _ 1157 [(4, vI i), (3, .ref o), (2, .ref m), (1, .ref x), (0, .ref 0)] [vI z4616, vI z4495] _ H4610
          try have _u9 : z4495 = z4616 := XEX_1 (by assumption : XEX _ _ _ _ z4495) (by assumption)
          refine wl_of hX hb cL_1157 (rw_icmp_eq (p1 := 1653) (p2 := 1160) (by decide) rfl ⟨b4496.1, b4496.2⟩ ⟨b4617.1, b4617.2⟩ (fun c4657 => ?_) (fun c4657 => ?_))
          · have k4658 : H4610 x 9 = H4489 x 9 := (f4615 x 9 _ gx rfl)
            have k4659 : H4610 m 6 = H4489 m 6 := (f4615 m 6 _ gm rfl)
            have k4660 : H4610 x 11 = H4489 x 11 := (f4615 x 11 _ gx rfl)
            have k4661 : H4610 m 13 = H4489 m 13 := (f4615 m 13 _ gm rfl)
            have k4662 : H4610 x 8 = H4489 x 8 := (f4615 x 8 _ gx rfl)
            have k4663 : H4610 m 3 = H4489 m 3 := (f4615 m 3 _ gm rfl)
            have k4664 : H4610 x 0 = H x 0 := ((f4615 x 0 _ gx rfl).trans (f4494 x 0 _ gx rfl))
            have q4665 : H4610 x 0 = (tc : Int) := k4664.trans e0
            have k4666 : H4610 m 5 = H m 5 := ((f4615 m 5 _ gm rfl).trans (f4494 m 5 _ gm rfl))
            have q4667 : H4610 m 5 = (tm : Int) := k4666.trans em
            have k4668 : H4610 x 6 = H x 6 := ((f4615 x 6 _ gx rfl).trans (f4494 x 6 _ gx rfl))
            have q4669 : H4610 x 6 = (cu : Int) := k4668.trans ecu
            have k4670 : H4610 x 7 = H x 7 := ((f4615 x 7 _ gx rfl).trans (f4494 x 7 _ gx rfl))
            have q4671 : H4610 x 7 = (dr : Int) := k4670.trans edr
            have h4672 : CEN T H4610 ce8 e8 d8 := (CEN_fr w4493 gce8 f4615 rfl a4500)
            have h4673 : TP T H4610 tc B := (TP_fr w4493 gtc f4615 rfl (TP_fr hW gtc f4494 rfl htc))
            have h4674 : TM T H4610 tm B := (TM_fr w4493 gtm f4615 rfl (TM_fr hW gtm f4494 rfl htm))
            have h4675 : DD T H4610 cu  := (DD_fr w4493 gcu f4615 rfl (DD_fr hW gcu f4494 rfl hcu))
            have h4676 : DD T H4610 dr  := (DD_fr w4493 gdr f4615 rfl (DD_fr hW gdr f4494 rfl hdr))
            have h4677 : DE T H4610 cu  := (DE_fr w4493 gcu f4615 rfl (DE_fr hW gcu f4494 rfl hdec))
            have h4678 : DE T H4610 dr  := (DE_fr w4493 gdr f4615 rfl (DE_fr hW gdr f4494 rfl hded))
            have h4679 : SP T H4610 x C8 := (SP_fr w4493 gx f4615 rfl (SP_fr hW gx f4494 rfl hsp))
            have h4680 : CU T H4610 cu e8 d8 n8 := (CU_fr w4493 gcu f4615 rfl (CU_fr hW gcu f4494 rfl hcu8))
            have h4681 : CY T H4610 cu (d8 0 3) g8 (H cu 17) := (CY_fr w4493 gcu f4615 rfl (CY_fr hW gcu f4494 rfl h4482))
            have k4682 : H4610 x 3 = H x 3 := ((f4615 x 3 _ gx rfl).trans (f4494 x 3 _ gx rfl))
            have q4683 : H4610 x 3 = (ce8 : Int) := k4682.trans ece8
            have h4684 : HDR T H4610 ce8  := (HDR_fr w4493 gce8 f4615 rfl (HDR_fr hW gce8 f4494 rfl hhdr8))
            have h4685 : RY T H4610 m (d8 0 3) g8 (H m 32) := (RY_fr w4493 gm f4615 rfl (RY_fr hW gm f4494 rfl h4483))
            have h4686 : RB T H4610 m e8 d8 := (RB_fr w4493 gm f4615 rfl h4606)
            exact WL.loc hX (by simp) (next T H4610 ⟨⟨w4614, g0, gx, gm, go, by omega, by omega⟩, ⟨_, tc, tm, cu, dr, _, _, _, _, _, ce8, q4665, gtc, h4673, q4667, gtm, h4674, q4669, gcu, q4671, gdr, h4675, h4676, h4677, h4678, h4679, hC1, hC2, h4680, h4686, (h4681).1, (h4685).1, hE, hZ, (by omega), (by assumption), (by omega), (by first | assumption | exact SG_0), q4683, gce8, h4672, h4684, a4626, gm⟩, by omega, by omega⟩ (by omega) (by omega))
          · refine wl_of hX hb cL_1160 (rw_iconst (pc' := 1161) rfl ?_)
            exfalso
            omega
    · show WL _ _ _ _ 1133 [(4, vI i), (3, .ref o), (2, .ref m), (1, .ref x), (0, .ref 0)] [vI z4495] _ H4489
      refine wl_of hX hb cL_1133 (rw_aload_n (pc' := 1134) (v := .ref m) rfl rfl rfl ?_)
      refine wl_of hX hb cL_1134 (rw_aload_n (pc' := 1135) (v := .ref 0) rfl rfl rfl ?_)
      refine wl_of hX hb cL_1135 (rw_iload (pc' := 1137) (z := i) rfl rfl ?_)
      refine wl_of hX hb cL_1137 (rw_iconst (pc' := 1138) rfl ?_)
      refine wl_of hX hb cL_1138 (rw_iadd (pc' := 1139) rfl ?_)
      have k4689 : H4489 0 ((i + 1).toNat) = H 0 ((i + 1).toNat) := (f4494 0 ((i + 1).toNat) _ g0 (wmem_s rfl))
      refine wl_of hX hb cL_1139 (xa_I (so := 0) (pc' := 1140) (a := 0) w4493 g0 (wsh_s _) (by omega) (wty_s _ _) (by omega) (by omega) rfl (fun b4687 b4688 => ?_))
      refine wl_of hX hb cL_1140 (rw_aload_n (pc' := 1141) (v := .ref 0) rfl rfl rfl ?_)
      refine wl_of hX hb cL_1141 (rw_iload (pc' := 1143) (z := i) rfl rfl ?_)
      refine wl_of hX hb cL_1143 (rw_iconst (pc' := 1144) rfl ?_)
      refine wl_of hX hb cL_1144 (rw_iadd (pc' := 1145) rfl ?_)
      have k4692 : H4489 0 ((i + 2).toNat) = H 0 ((i + 2).toNat) := (f4494 0 ((i + 2).toNat) _ g0 (wmem_s rfl))
      refine wl_of hX hb cL_1145 (xa_I (so := 0) (pc' := 1146) (a := 0) w4493 g0 (wsh_s _) (by omega) (wty_s _ _) (by omega) (by omega) rfl (fun b4690 b4691 => ?_))
      refine wl_of hX hb cL_1146 (rw_if_eq (p1 := 1153) (p2 := 1149) (by decide) rfl ⟨by omega, by omega⟩ (fun c4693 => ?_) (fun c4693 => ?_))
      · refine wl_of hX hb cL_1153 (rw_iconst (pc' := 1154) rfl ?_)
        have k4694 : wKI H4489 m = wKI H m := (wKI_fr hW gm f4494 rfl)
        have k4695 : H4489 x 9 = H x 9 := (f4494 x 9 _ gx rfl)
        have k4696 : H4489 m 6 = H m 6 := (f4494 m 6 _ gm rfl)
        have k4697 : H4489 x 11 = H x 11 := (f4494 x 11 _ gx rfl)
        have k4698 : H4489 m 13 = H m 13 := (f4494 m 13 _ gm rfl)
        have k4699 : H4489 x 8 = H x 8 := (f4494 x 8 _ gx rfl)
        have k4700 : H4489 m 3 = H m 3 := (f4494 m 3 _ gm rfl)
        rw [show H4489 0 ((i + 1).toNat) = H 0 ((i + 1).toNat) by omega]
        have h4701 : RB T H4489 m e8 d8 := (RB_fr hW gm f4494 rfl hrb8)
        have h4702 : KNN T H4489 m e8 d8 := (KNN_fr hW gm f4494 rfl hknn8)
        refine wl_of hX hb cL_1154 (xc_V (pc' := 1157) (r := m) (as := [vI (H 0 ((i + 1).toNat)), vI 0]) (st := [vI z4495]) (lm_11_146) rfl rfl (Nat.le_of_ble_eq_true rfl) w4493 gm sh_42 (by decide) rfl (by decide) (u_265 (e := e8) (d := d8) w4493 gm ⟨by omega, by omega⟩ ⟨by decide, by decide⟩ (by omega) (by assumption) (by assumption) (by assumption) (by assumption) h4701 h4702) (fun R4703 T4704 H4705 p4706 => ?_))
        obtain ⟨e4707, w4709, f4710, z4711, e4708, b4712, p4713⟩ := p4706
        subst e4707
        subst e4708
        rcases p4713 with ⟨a4714, a4715, a4716, a4717⟩ | ⟨a4718, a4719, a4720, a4721⟩
        · show WL _ _ _ _ 1157 [(4, vI i), (3, .ref o), (2, .ref m), (1, .ref x), (0, .ref 0)] [vI z4711, vI z4495] _ H4705
          refine wl_of hX hb cL_1157 (rw_icmp_eq (p1 := 1653) (p2 := 1160) (by decide) rfl ⟨b4496.1, b4496.2⟩ ⟨b4712.1, b4712.2⟩ (fun c4722 => ?_) (fun c4722 => ?_))
          · have k4723 : H4705 x 9 = H4489 x 9 := (f4710 x 9 _ gx rfl)
            have k4724 : H4705 m 6 = H4489 m 6 := (f4710 m 6 _ gm rfl)
            have k4725 : H4705 x 11 = H4489 x 11 := (f4710 x 11 _ gx rfl)
            have k4726 : H4705 m 13 = H4489 m 13 := (f4710 m 13 _ gm rfl)
            have k4727 : H4705 x 8 = H4489 x 8 := (f4710 x 8 _ gx rfl)
            have k4728 : H4705 m 3 = H4489 m 3 := (f4710 m 3 _ gm rfl)
            have k4729 : H4705 x 0 = H x 0 := ((f4710 x 0 _ gx rfl).trans (f4494 x 0 _ gx rfl))
            have q4730 : H4705 x 0 = (tc : Int) := k4729.trans e0
            have k4731 : H4705 m 5 = H m 5 := ((f4710 m 5 _ gm rfl).trans (f4494 m 5 _ gm rfl))
            have q4732 : H4705 m 5 = (tm : Int) := k4731.trans em
            have k4733 : H4705 x 6 = H x 6 := ((f4710 x 6 _ gx rfl).trans (f4494 x 6 _ gx rfl))
            have q4734 : H4705 x 6 = (cu : Int) := k4733.trans ecu
            have k4735 : H4705 x 7 = H x 7 := ((f4710 x 7 _ gx rfl).trans (f4494 x 7 _ gx rfl))
            have q4736 : H4705 x 7 = (dr : Int) := k4735.trans edr
            have h4737 : CEN T H4705 ce8 e8 d8 := (CEN_fr w4493 gce8 f4710 rfl a4503)
            have h4738 : TP T H4705 tc B := (TP_fr w4493 gtc f4710 rfl (TP_fr hW gtc f4494 rfl htc))
            have h4739 : TM T H4705 tm B := (TM_fr w4493 gtm f4710 rfl (TM_fr hW gtm f4494 rfl htm))
            have h4740 : DD T H4705 cu  := (DD_fr w4493 gcu f4710 rfl (DD_fr hW gcu f4494 rfl hcu))
            have h4741 : DD T H4705 dr  := (DD_fr w4493 gdr f4710 rfl (DD_fr hW gdr f4494 rfl hdr))
            have h4742 : DE T H4705 cu  := (DE_fr w4493 gcu f4710 rfl (DE_fr hW gcu f4494 rfl hdec))
            have h4743 : DE T H4705 dr  := (DE_fr w4493 gdr f4710 rfl (DE_fr hW gdr f4494 rfl hded))
            have h4744 : SP T H4705 x C8 := (SP_fr w4493 gx f4710 rfl (SP_fr hW gx f4494 rfl hsp))
            have h4745 : CU T H4705 cu e8 d8 n8 := (CU_fr w4493 gcu f4710 rfl (CU_fr hW gcu f4494 rfl hcu8))
            have h4746 : CY T H4705 cu (d8 0 3) g8 (H cu 17) := (CY_fr w4493 gcu f4710 rfl (CY_fr hW gcu f4494 rfl h4482))
            have k4747 : H4705 x 3 = H x 3 := ((f4710 x 3 _ gx rfl).trans (f4494 x 3 _ gx rfl))
            have q4748 : H4705 x 3 = (ce8 : Int) := k4747.trans ece8
            have h4749 : HDR T H4705 ce8  := (HDR_fr w4493 gce8 f4710 rfl (HDR_fr hW gce8 f4494 rfl hhdr8))
            have h4750 : RY T H4705 m (d8 0 3) g8 (H m 32) := (RY_fr w4493 gm f4710 rfl (RY_fr hW gm f4494 rfl h4483))
            have h4751 : RB T H4705 m e8 d8 := (RB_fr w4493 gm f4710 rfl h4701)
            exact WL.loc hX (by simp) (next T H4705 ⟨⟨w4709, g0, gx, gm, go, by omega, by omega⟩, ⟨_, tc, tm, cu, dr, _, _, _, _, _, ce8, q4730, gtc, h4738, q4732, gtm, h4739, q4734, gcu, q4736, gdr, h4740, h4741, h4742, h4743, h4744, hC1, hC2, h4745, h4751, (h4746).1, (h4750).1, hE, hZ, (by omega), (by assumption), (by omega), (by first | assumption | exact SG_0), q4748, gce8, h4737, h4749, a4717, gm⟩, by omega, by omega⟩ (by omega) (by omega))
          · refine wl_of hX hb cL_1160 (rw_iconst (pc' := 1161) rfl ?_)
            exfalso
            omega
        · show WL _ _ _ _ 1157 [(4, vI i), (3, .ref o), (2, .ref m), (1, .ref x), (0, .ref 0)] [vI z4711, vI z4495] _ H4705
          try have _u9 : z4495 = z4711 := XEX_1 (by assumption : XEX _ _ _ _ z4495) (by assumption)
          refine wl_of hX hb cL_1157 (rw_icmp_eq (p1 := 1653) (p2 := 1160) (by decide) rfl ⟨b4496.1, b4496.2⟩ ⟨b4712.1, b4712.2⟩ (fun c4752 => ?_) (fun c4752 => ?_))
          · have k4753 : H4705 x 9 = H4489 x 9 := (f4710 x 9 _ gx rfl)
            have k4754 : H4705 m 6 = H4489 m 6 := (f4710 m 6 _ gm rfl)
            have k4755 : H4705 x 11 = H4489 x 11 := (f4710 x 11 _ gx rfl)
            have k4756 : H4705 m 13 = H4489 m 13 := (f4710 m 13 _ gm rfl)
            have k4757 : H4705 x 8 = H4489 x 8 := (f4710 x 8 _ gx rfl)
            have k4758 : H4705 m 3 = H4489 m 3 := (f4710 m 3 _ gm rfl)
            have k4759 : H4705 x 0 = H x 0 := ((f4710 x 0 _ gx rfl).trans (f4494 x 0 _ gx rfl))
            have q4760 : H4705 x 0 = (tc : Int) := k4759.trans e0
            have k4761 : H4705 m 5 = H m 5 := ((f4710 m 5 _ gm rfl).trans (f4494 m 5 _ gm rfl))
            have q4762 : H4705 m 5 = (tm : Int) := k4761.trans em
            have k4763 : H4705 x 6 = H x 6 := ((f4710 x 6 _ gx rfl).trans (f4494 x 6 _ gx rfl))
            have q4764 : H4705 x 6 = (cu : Int) := k4763.trans ecu
            have k4765 : H4705 x 7 = H x 7 := ((f4710 x 7 _ gx rfl).trans (f4494 x 7 _ gx rfl))
            have q4766 : H4705 x 7 = (dr : Int) := k4765.trans edr
            have h4767 : CEN T H4705 ce8 e8 d8 := (CEN_fr w4493 gce8 f4710 rfl a4503)
            have h4768 : TP T H4705 tc B := (TP_fr w4493 gtc f4710 rfl (TP_fr hW gtc f4494 rfl htc))
            have h4769 : TM T H4705 tm B := (TM_fr w4493 gtm f4710 rfl (TM_fr hW gtm f4494 rfl htm))
            have h4770 : DD T H4705 cu  := (DD_fr w4493 gcu f4710 rfl (DD_fr hW gcu f4494 rfl hcu))
            have h4771 : DD T H4705 dr  := (DD_fr w4493 gdr f4710 rfl (DD_fr hW gdr f4494 rfl hdr))
            have h4772 : DE T H4705 cu  := (DE_fr w4493 gcu f4710 rfl (DE_fr hW gcu f4494 rfl hdec))
            have h4773 : DE T H4705 dr  := (DE_fr w4493 gdr f4710 rfl (DE_fr hW gdr f4494 rfl hded))
            have h4774 : SP T H4705 x C8 := (SP_fr w4493 gx f4710 rfl (SP_fr hW gx f4494 rfl hsp))
            have h4775 : CU T H4705 cu e8 d8 n8 := (CU_fr w4493 gcu f4710 rfl (CU_fr hW gcu f4494 rfl hcu8))
            have h4776 : CY T H4705 cu (d8 0 3) g8 (H cu 17) := (CY_fr w4493 gcu f4710 rfl (CY_fr hW gcu f4494 rfl h4482))
            have k4777 : H4705 x 3 = H x 3 := ((f4710 x 3 _ gx rfl).trans (f4494 x 3 _ gx rfl))
            have q4778 : H4705 x 3 = (ce8 : Int) := k4777.trans ece8
            have h4779 : HDR T H4705 ce8  := (HDR_fr w4493 gce8 f4710 rfl (HDR_fr hW gce8 f4494 rfl hhdr8))
            have h4780 : RY T H4705 m (d8 0 3) g8 (H m 32) := (RY_fr w4493 gm f4710 rfl (RY_fr hW gm f4494 rfl h4483))
            have h4781 : RB T H4705 m e8 d8 := (RB_fr w4493 gm f4710 rfl h4701)
            exact WL.loc hX (by simp) (next T H4705 ⟨⟨w4709, g0, gx, gm, go, by omega, by omega⟩, ⟨_, tc, tm, cu, dr, _, _, _, _, _, ce8, q4760, gtc, h4768, q4762, gtm, h4769, q4764, gcu, q4766, gdr, h4770, h4771, h4772, h4773, h4774, hC1, hC2, h4775, h4781, (h4776).1, (h4780).1, hE, hZ, (by omega), (by assumption), (by omega), (by first | assumption | exact SG_0), q4778, gce8, h4767, h4779, a4721, gm⟩, by omega, by omega⟩ (by omega) (by omega))
          · refine wl_of hX hb cL_1160 (rw_iconst (pc' := 1161) rfl ?_)
            exfalso
            omega
      · refine wl_of hX hb cL_1149 (rw_iconst (pc' := 1150) rfl ?_)
        refine wl_of hX hb cL_1150 (rw_goto (p1 := 1154) (by decide) ?_)
        have k4782 : wKI H4489 m = wKI H m := (wKI_fr hW gm f4494 rfl)
        have k4783 : H4489 x 9 = H x 9 := (f4494 x 9 _ gx rfl)
        have k4784 : H4489 m 6 = H m 6 := (f4494 m 6 _ gm rfl)
        have k4785 : H4489 x 11 = H x 11 := (f4494 x 11 _ gx rfl)
        have k4786 : H4489 m 13 = H m 13 := (f4494 m 13 _ gm rfl)
        have k4787 : H4489 x 8 = H x 8 := (f4494 x 8 _ gx rfl)
        have k4788 : H4489 m 3 = H m 3 := (f4494 m 3 _ gm rfl)
        rw [show H4489 0 ((i + 1).toNat) = H 0 ((i + 1).toNat) by omega]
        have h4789 : RB T H4489 m e8 d8 := (RB_fr hW gm f4494 rfl hrb8)
        have h4790 : KNN T H4489 m e8 d8 := (KNN_fr hW gm f4494 rfl hknn8)
        refine wl_of hX hb cL_1154 (xc_V (pc' := 1157) (r := m) (as := [vI (H 0 ((i + 1).toNat)), vI 1]) (st := [vI z4495]) (lm_11_146) rfl rfl (Nat.le_of_ble_eq_true rfl) w4493 gm sh_42 (by decide) rfl (by decide) (u_265 (e := e8) (d := d8) w4493 gm ⟨by omega, by omega⟩ ⟨by decide, by decide⟩ (by omega) (by assumption) (by assumption) (by assumption) (by assumption) h4789 h4790) (fun R4791 T4792 H4793 p4794 => ?_))
        obtain ⟨e4795, w4797, f4798, z4799, e4796, b4800, p4801⟩ := p4794
        subst e4795
        subst e4796
        rcases p4801 with ⟨a4802, a4803, a4804, a4805⟩ | ⟨a4806, a4807, a4808, a4809⟩
        · show WL _ _ _ _ 1157 [(4, vI i), (3, .ref o), (2, .ref m), (1, .ref x), (0, .ref 0)] [vI z4799, vI z4495] _ H4793
          refine wl_of hX hb cL_1157 (rw_icmp_eq (p1 := 1653) (p2 := 1160) (by decide) rfl ⟨b4496.1, b4496.2⟩ ⟨b4800.1, b4800.2⟩ (fun c4810 => ?_) (fun c4810 => ?_))
          · have k4811 : H4793 x 9 = H4489 x 9 := (f4798 x 9 _ gx rfl)
            have k4812 : H4793 m 6 = H4489 m 6 := (f4798 m 6 _ gm rfl)
            have k4813 : H4793 x 11 = H4489 x 11 := (f4798 x 11 _ gx rfl)
            have k4814 : H4793 m 13 = H4489 m 13 := (f4798 m 13 _ gm rfl)
            have k4815 : H4793 x 8 = H4489 x 8 := (f4798 x 8 _ gx rfl)
            have k4816 : H4793 m 3 = H4489 m 3 := (f4798 m 3 _ gm rfl)
            have k4817 : H4793 x 0 = H x 0 := ((f4798 x 0 _ gx rfl).trans (f4494 x 0 _ gx rfl))
            have q4818 : H4793 x 0 = (tc : Int) := k4817.trans e0
            have k4819 : H4793 m 5 = H m 5 := ((f4798 m 5 _ gm rfl).trans (f4494 m 5 _ gm rfl))
            have q4820 : H4793 m 5 = (tm : Int) := k4819.trans em
            have k4821 : H4793 x 6 = H x 6 := ((f4798 x 6 _ gx rfl).trans (f4494 x 6 _ gx rfl))
            have q4822 : H4793 x 6 = (cu : Int) := k4821.trans ecu
            have k4823 : H4793 x 7 = H x 7 := ((f4798 x 7 _ gx rfl).trans (f4494 x 7 _ gx rfl))
            have q4824 : H4793 x 7 = (dr : Int) := k4823.trans edr
            have h4825 : CEN T H4793 ce8 e8 d8 := (CEN_fr w4493 gce8 f4798 rfl a4503)
            have h4826 : TP T H4793 tc B := (TP_fr w4493 gtc f4798 rfl (TP_fr hW gtc f4494 rfl htc))
            have h4827 : TM T H4793 tm B := (TM_fr w4493 gtm f4798 rfl (TM_fr hW gtm f4494 rfl htm))
            have h4828 : DD T H4793 cu  := (DD_fr w4493 gcu f4798 rfl (DD_fr hW gcu f4494 rfl hcu))
            have h4829 : DD T H4793 dr  := (DD_fr w4493 gdr f4798 rfl (DD_fr hW gdr f4494 rfl hdr))
            have h4830 : DE T H4793 cu  := (DE_fr w4493 gcu f4798 rfl (DE_fr hW gcu f4494 rfl hdec))
            have h4831 : DE T H4793 dr  := (DE_fr w4493 gdr f4798 rfl (DE_fr hW gdr f4494 rfl hded))
            have h4832 : SP T H4793 x C8 := (SP_fr w4493 gx f4798 rfl (SP_fr hW gx f4494 rfl hsp))
            have h4833 : CU T H4793 cu e8 d8 n8 := (CU_fr w4493 gcu f4798 rfl (CU_fr hW gcu f4494 rfl hcu8))
            have h4834 : CY T H4793 cu (d8 0 3) g8 (H cu 17) := (CY_fr w4493 gcu f4798 rfl (CY_fr hW gcu f4494 rfl h4482))
            have k4835 : H4793 x 3 = H x 3 := ((f4798 x 3 _ gx rfl).trans (f4494 x 3 _ gx rfl))
            have q4836 : H4793 x 3 = (ce8 : Int) := k4835.trans ece8
            have h4837 : HDR T H4793 ce8  := (HDR_fr w4493 gce8 f4798 rfl (HDR_fr hW gce8 f4494 rfl hhdr8))
            have h4838 : RY T H4793 m (d8 0 3) g8 (H m 32) := (RY_fr w4493 gm f4798 rfl (RY_fr hW gm f4494 rfl h4483))
            have h4839 : RB T H4793 m e8 d8 := (RB_fr w4493 gm f4798 rfl h4789)
            exact WL.loc hX (by simp) (next T H4793 ⟨⟨w4797, g0, gx, gm, go, by omega, by omega⟩, ⟨_, tc, tm, cu, dr, _, _, _, _, _, ce8, q4818, gtc, h4826, q4820, gtm, h4827, q4822, gcu, q4824, gdr, h4828, h4829, h4830, h4831, h4832, hC1, hC2, h4833, h4839, (h4834).1, (h4838).1, hE, hZ, (by omega), (by assumption), (by omega), (by first | assumption | exact SG_0), q4836, gce8, h4825, h4837, a4805, gm⟩, by omega, by omega⟩ (by omega) (by omega))
          · refine wl_of hX hb cL_1160 (rw_iconst (pc' := 1161) rfl ?_)
            exfalso
            omega
        · show WL _ _ _ _ 1157 [(4, vI i), (3, .ref o), (2, .ref m), (1, .ref x), (0, .ref 0)] [vI z4799, vI z4495] _ H4793
          try have _u9 : z4495 = z4799 := XEX_1 (by assumption : XEX _ _ _ _ z4495) (by assumption)
          refine wl_of hX hb cL_1157 (rw_icmp_eq (p1 := 1653) (p2 := 1160) (by decide) rfl ⟨b4496.1, b4496.2⟩ ⟨b4800.1, b4800.2⟩ (fun c4840 => ?_) (fun c4840 => ?_))
          · have k4841 : H4793 x 9 = H4489 x 9 := (f4798 x 9 _ gx rfl)
            have k4842 : H4793 m 6 = H4489 m 6 := (f4798 m 6 _ gm rfl)
            have k4843 : H4793 x 11 = H4489 x 11 := (f4798 x 11 _ gx rfl)
            have k4844 : H4793 m 13 = H4489 m 13 := (f4798 m 13 _ gm rfl)
            have k4845 : H4793 x 8 = H4489 x 8 := (f4798 x 8 _ gx rfl)
            have k4846 : H4793 m 3 = H4489 m 3 := (f4798 m 3 _ gm rfl)
            have k4847 : H4793 x 0 = H x 0 := ((f4798 x 0 _ gx rfl).trans (f4494 x 0 _ gx rfl))
            have q4848 : H4793 x 0 = (tc : Int) := k4847.trans e0
            have k4849 : H4793 m 5 = H m 5 := ((f4798 m 5 _ gm rfl).trans (f4494 m 5 _ gm rfl))
            have q4850 : H4793 m 5 = (tm : Int) := k4849.trans em
            have k4851 : H4793 x 6 = H x 6 := ((f4798 x 6 _ gx rfl).trans (f4494 x 6 _ gx rfl))
            have q4852 : H4793 x 6 = (cu : Int) := k4851.trans ecu
            have k4853 : H4793 x 7 = H x 7 := ((f4798 x 7 _ gx rfl).trans (f4494 x 7 _ gx rfl))
            have q4854 : H4793 x 7 = (dr : Int) := k4853.trans edr
            have h4855 : CEN T H4793 ce8 e8 d8 := (CEN_fr w4493 gce8 f4798 rfl a4503)
            have h4856 : TP T H4793 tc B := (TP_fr w4493 gtc f4798 rfl (TP_fr hW gtc f4494 rfl htc))
            have h4857 : TM T H4793 tm B := (TM_fr w4493 gtm f4798 rfl (TM_fr hW gtm f4494 rfl htm))
            have h4858 : DD T H4793 cu  := (DD_fr w4493 gcu f4798 rfl (DD_fr hW gcu f4494 rfl hcu))
            have h4859 : DD T H4793 dr  := (DD_fr w4493 gdr f4798 rfl (DD_fr hW gdr f4494 rfl hdr))
            have h4860 : DE T H4793 cu  := (DE_fr w4493 gcu f4798 rfl (DE_fr hW gcu f4494 rfl hdec))
            have h4861 : DE T H4793 dr  := (DE_fr w4493 gdr f4798 rfl (DE_fr hW gdr f4494 rfl hded))
            have h4862 : SP T H4793 x C8 := (SP_fr w4493 gx f4798 rfl (SP_fr hW gx f4494 rfl hsp))
            have h4863 : CU T H4793 cu e8 d8 n8 := (CU_fr w4493 gcu f4798 rfl (CU_fr hW gcu f4494 rfl hcu8))
            have h4864 : CY T H4793 cu (d8 0 3) g8 (H cu 17) := (CY_fr w4493 gcu f4798 rfl (CY_fr hW gcu f4494 rfl h4482))
            have k4865 : H4793 x 3 = H x 3 := ((f4798 x 3 _ gx rfl).trans (f4494 x 3 _ gx rfl))
            have q4866 : H4793 x 3 = (ce8 : Int) := k4865.trans ece8
            have h4867 : HDR T H4793 ce8  := (HDR_fr w4493 gce8 f4798 rfl (HDR_fr hW gce8 f4494 rfl hhdr8))
            have h4868 : RY T H4793 m (d8 0 3) g8 (H m 32) := (RY_fr w4493 gm f4798 rfl (RY_fr hW gm f4494 rfl h4483))
            have h4869 : RB T H4793 m e8 d8 := (RB_fr w4493 gm f4798 rfl h4789)
            exact WL.loc hX (by simp) (next T H4793 ⟨⟨w4797, g0, gx, gm, go, by omega, by omega⟩, ⟨_, tc, tm, cu, dr, _, _, _, _, _, ce8, q4848, gtc, h4856, q4850, gtm, h4857, q4852, gcu, q4854, gdr, h4858, h4859, h4860, h4861, h4862, hC1, hC2, h4863, h4869, (h4864).1, (h4868).1, hE, hZ, (by omega), (by assumption), (by omega), (by first | assumption | exact SG_0), q4866, gce8, h4855, h4867, a4809, gm⟩, by omega, by omega⟩ (by omega) (by omega))
          · refine wl_of hX hb cL_1160 (rw_iconst (pc' := 1161) rfl ?_)
            exfalso
            omega
