/-! THE LAW, GONE ON WITH (own work) -/
set_option maxHeartbeats 4000000 in
theorem wl_c29 {kt : Nat → Option mc_E} {CB SB : Nat} {X : mc_S → Prop} {T : wq_T} {H : wq_H} {Len x m o : Nat} {i : Int} (hX : wlX kt CB SB X) (hb : T.2.1 ≤ CB ∧ T.2.2.1 ≤ SB) (hI : wlJ Len x m o T H) (hL : Len ≤ 3072) (hi : 0 ≤ i ∧ i + 6 ≤ Len) (hb2 : T.2.1 + 20 ≤ CB ∧ T.2.2.1 + 500 ≤ SB)  (next : ∀ T' H', wlJ Len x m o T' H' → T'.2.1 ≤ T.2.1 + 20 → T'.2.2.1 ≤ T.2.2.1 + 500 → WL kt CB SB X 1653 (wlL i x m o) [] T' H') : WL kt CB SB X 1109 (wlL i x m o) [] T H := by
  obtain ⟨⟨hW, g0, gx, gm, go, hK, hr⟩, hXI, hY1, hY2⟩ := hI
  refine wl_of hX hb cL_1109 (rw_aload_n (pc' := 1110) (v := .ref x) rfl rfl rfl ?_)
  refine wl_of hX hb cL_1110 (rw_aload_n (pc' := 1111) (v := .ref 0) rfl rfl rfl ?_)
  refine wl_of hX hb cL_1111 (rw_iload (pc' := 1113) (z := i) rfl rfl ?_)
  refine wl_of hX hb cL_1113 (rw_iconst (pc' := 1114) rfl ?_)
  refine wl_of hX hb cL_1114 (rw_iadd (pc' := 1115) rfl ?_)
  refine wl_of hX hb cL_1115 (xa_I (so := 0) (pc' := 1116) (a := 0) hW g0 (wsh_s _) (by omega) (wty_s _ _) (by omega) (by omega) rfl (fun b4209 b4210 => ?_))
  refine wl_of hX hb cL_1116 (rw_aload_n (pc' := 1117) (v := .ref 0) rfl rfl rfl ?_)
  refine wl_of hX hb cL_1117 (rw_iload (pc' := 1119) (z := i) rfl rfl ?_)
  refine wl_of hX hb cL_1119 (rw_iconst (pc' := 1120) rfl ?_)
  refine wl_of hX hb cL_1120 (rw_iadd (pc' := 1121) rfl ?_)
  refine wl_of hX hb cL_1121 (xa_I (so := 0) (pc' := 1122) (a := 0) hW g0 (wsh_s _) (by omega) (wty_s _ _) (by omega) (by omega) rfl (fun b4211 b4212 => ?_))
  refine wl_of hX hb cL_1122 (rw_if_eq (p1 := 1129) (p2 := 1125) (by decide) rfl ⟨by omega, by omega⟩ (fun c4213 => ?_) (fun c4213 => ?_))
  · refine wl_of hX hb cL_1129 (rw_iconst (pc' := 1130) rfl ?_)
    obtain ⟨B, tc, tm, cu, dr, C8, e8, d8, n8, g8, ce8, e0, gtc, htc, em, gtm, htm, ecu, gcu, edr, gdr, hcu, hdr, hdec, hded, hsp, hC1, hC2, hcu8, hrb8, hcg8, hmn8, hE, hZ, hn8, hXA, hV8, hSG, ece8, gce8, hcen8, hhdr8, hknn8, -⟩ := hXI
    have hN3 := RB_n3 hrb8
    have hE13 : ∀ h : Nat, h < 24 → 0 ≤ e8 13 h ∧ e8 13 h ≤ 100 := fun k hk => by
      obtain ⟨s, h1, h2, h3⟩ := hcu8.1.2.2.1
      exact ⟨(h3 k hk).1, (h3 k hk).2.1⟩
    have hXW := hXA.1
    have hXN := hXA.2
    have hE0 : e8 0 3 = d8 0 3 ∧ e8 0 0 = d8 0 0 := by
      have h := hE 0 (by decide)
      exact ⟨congrFun h 3, congrFun h 0⟩
    have u4214 := CU_k hcu8
    have h4215 : CY T H cu (d8 0 3) g8 (H cu 17) := ⟨hcg8, rfl⟩
    have h4216 : RY T H m (d8 0 3) g8 (H m 32) := ⟨hmn8, rfl⟩
    obtain ⟨t9, ht9⟩ : ∃ t : Int, t = H x 9 := ⟨_, rfl⟩
    obtain ⟨y9, hy9⟩ : ∃ y : Int, y = 0 := ⟨_, rfl⟩
    obtain ⟨r4217, q4218, g4219⟩ := hW.ref gx (t' := 6) (n := 13) (j := 2) (p := 0) (q := 0) rfl (by decide) rfl
    refine wl_of hX hb cL_1130 (xc_V (pc' := 1133) (r := x) (as := [vI (H 0 ((i + 1).toNat)), vI 0]) (st := []) (lm_11_143) rfl rfl (Nat.le_of_ble_eq_true rfl) hW gx sh_1 (by decide) rfl (by decide) (u_119 (e := e8) (d := d8) (n := n8) hW gx ⟨by omega, by omega⟩ ⟨by decide, by decide⟩ ecu gcu q4218 g4219 ece8 gce8 (by assumption) (by assumption) (by omega) (by omega) (by omega) (by omega) hcu8 hcen8 hhdr8) (fun R4220 T4221 H4222 p4223 => ?_))
    obtain ⟨e4224, w4226, f4227, z4228, e4225, b4229, p4230⟩ := p4223
    subst e4224
    subst e4225
    show WL _ _ _ _ 1133 [(4, vI i), (3, .ref o), (2, .ref m), (1, .ref x), (0, .ref 0)] [vI z4228] _ H4222
    refine wl_of hX hb cL_1133 (rw_pop (pc' := 1134) rfl rfl ?_)
    refine wl_of hX hb cL_1134 (rw_aload_n (pc' := 1135) (v := .ref m) rfl rfl rfl ?_)
    refine wl_of hX hb cL_1135 (rw_aload_n (pc' := 1136) (v := .ref 0) rfl rfl rfl ?_)
    refine wl_of hX hb cL_1136 (rw_iload (pc' := 1138) (z := i) rfl rfl ?_)
    refine wl_of hX hb cL_1138 (rw_iconst (pc' := 1139) rfl ?_)
    refine wl_of hX hb cL_1139 (rw_iadd (pc' := 1140) rfl ?_)
    have k4234 : H4222 0 ((i + 1).toNat) = H 0 ((i + 1).toNat) := (f4227 0 ((i + 1).toNat) _ g0 (wmem_s rfl))
    refine wl_of hX hb cL_1140 (xa_I (so := 0) (pc' := 1141) (a := 0) w4226 g0 (wsh_s _) (by omega) (wty_s _ _) (by omega) (by omega) rfl (fun b4232 b4233 => ?_))
    refine wl_of hX hb cL_1141 (rw_aload_n (pc' := 1142) (v := .ref 0) rfl rfl rfl ?_)
    refine wl_of hX hb cL_1142 (rw_iload (pc' := 1144) (z := i) rfl rfl ?_)
    refine wl_of hX hb cL_1144 (rw_iconst (pc' := 1145) rfl ?_)
    refine wl_of hX hb cL_1145 (rw_iadd (pc' := 1146) rfl ?_)
    have k4237 : H4222 0 ((i + 2).toNat) = H 0 ((i + 2).toNat) := (f4227 0 ((i + 2).toNat) _ g0 (wmem_s rfl))
    refine wl_of hX hb cL_1146 (xa_I (so := 0) (pc' := 1147) (a := 0) w4226 g0 (wsh_s _) (by omega) (wty_s _ _) (by omega) (by omega) rfl (fun b4235 b4236 => ?_))
    refine wl_of hX hb cL_1147 (rw_if_eq (p1 := 1154) (p2 := 1150) (by decide) rfl ⟨by omega, by omega⟩ (fun c4238 => ?_) (fun c4238 => ?_))
    · refine wl_of hX hb cL_1154 (rw_iconst (pc' := 1155) rfl ?_)
      have k4239 : wKI H4222 m = wKI H m := (wKI_fr hW gm f4227 rfl)
      have k4240 : H4222 x 9 = H x 9 := (f4227 x 9 _ gx rfl)
      have k4241 : H4222 m 6 = H m 6 := (f4227 m 6 _ gm rfl)
      have k4242 : H4222 x 11 = H x 11 := (f4227 x 11 _ gx rfl)
      have k4243 : H4222 m 13 = H m 13 := (f4227 m 13 _ gm rfl)
      have k4244 : H4222 x 8 = H x 8 := (f4227 x 8 _ gx rfl)
      have k4245 : H4222 m 3 = H m 3 := (f4227 m 3 _ gm rfl)
      rw [show H4222 0 ((i + 1).toNat) = H 0 ((i + 1).toNat) by omega]
      have h4246 : RB T H4222 m e8 d8 := (RB_fr hW gm f4227 rfl hrb8)
      have h4247 : KNN T H4222 m e8 d8 := (KNN_fr hW gm f4227 rfl hknn8)
      refine wl_of hX hb cL_1155 (xc_V (pc' := 1158) (r := m) (as := [vI (H 0 ((i + 1).toNat)), vI 0]) (st := []) (lm_11_146) rfl rfl (Nat.le_of_ble_eq_true rfl) w4226 gm sh_42 (by decide) rfl (by decide) (u_265 (e := e8) (d := d8) w4226 gm ⟨by omega, by omega⟩ ⟨by decide, by decide⟩ (by omega) (by assumption) (by assumption) (by assumption) (by assumption) h4246 h4247) (fun R4248 T4249 H4250 p4251 => ?_))
      obtain ⟨e4252, w4254, f4255, z4256, e4253, b4257, p4258⟩ := p4251
      subst e4252
      subst e4253
      obtain ⟨a4259, a4260⟩ := p4258
      show WL _ _ _ _ 1158 [(4, vI i), (3, .ref o), (2, .ref m), (1, .ref x), (0, .ref 0)] [vI z4256] _ H4250
      refine wl_of hX hb cL_1158 (rw_pop (pc' := 1159) rfl rfl ?_)
      refine wl_of hX hb cL_1159 (rw_goto (p1 := 1653) (by decide) ?_)
      have k4261 : H4250 x 9 = H4222 x 9 := (f4255 x 9 _ gx rfl)
      have k4262 : H4250 m 6 = H4222 m 6 := (f4255 m 6 _ gm rfl)
      have k4263 : H4250 x 11 = H4222 x 11 := (f4255 x 11 _ gx rfl)
      have k4264 : H4250 m 13 = H4222 m 13 := (f4255 m 13 _ gm rfl)
      have k4265 : H4250 x 8 = H4222 x 8 := (f4255 x 8 _ gx rfl)
      have k4266 : H4250 m 3 = H4222 m 3 := (f4255 m 3 _ gm rfl)
      have k4267 : H4250 x 0 = H x 0 := ((f4255 x 0 _ gx rfl).trans (f4227 x 0 _ gx rfl))
      have q4268 : H4250 x 0 = (tc : Int) := k4267.trans e0
      have k4269 : H4250 m 5 = H m 5 := ((f4255 m 5 _ gm rfl).trans (f4227 m 5 _ gm rfl))
      have q4270 : H4250 m 5 = (tm : Int) := k4269.trans em
      have k4271 : H4250 x 6 = H x 6 := ((f4255 x 6 _ gx rfl).trans (f4227 x 6 _ gx rfl))
      have q4272 : H4250 x 6 = (cu : Int) := k4271.trans ecu
      have k4273 : H4250 x 7 = H x 7 := ((f4255 x 7 _ gx rfl).trans (f4227 x 7 _ gx rfl))
      have q4274 : H4250 x 7 = (dr : Int) := k4273.trans edr
      have h4275 : CEN T H4250 ce8 e8 d8 := (CEN_fr w4226 gce8 f4255 rfl p4230)
      have h4276 : TP T H4250 tc B := (TP_fr w4226 gtc f4255 rfl (TP_fr hW gtc f4227 rfl htc))
      have h4277 : TM T H4250 tm B := (TM_fr w4226 gtm f4255 rfl (TM_fr hW gtm f4227 rfl htm))
      have h4278 : DD T H4250 cu  := (DD_fr w4226 gcu f4255 rfl (DD_fr hW gcu f4227 rfl hcu))
      have h4279 : DD T H4250 dr  := (DD_fr w4226 gdr f4255 rfl (DD_fr hW gdr f4227 rfl hdr))
      have h4280 : DE T H4250 cu  := (DE_fr w4226 gcu f4255 rfl (DE_fr hW gcu f4227 rfl hdec))
      have h4281 : DE T H4250 dr  := (DE_fr w4226 gdr f4255 rfl (DE_fr hW gdr f4227 rfl hded))
      have h4282 : SP T H4250 x C8 := (SP_fr w4226 gx f4255 rfl (SP_fr hW gx f4227 rfl hsp))
      have h4283 : CU T H4250 cu e8 d8 n8 := (CU_fr w4226 gcu f4255 rfl (CU_fr hW gcu f4227 rfl hcu8))
      have h4284 : CY T H4250 cu (d8 0 3) g8 (H cu 17) := (CY_fr w4226 gcu f4255 rfl (CY_fr hW gcu f4227 rfl h4215))
      have k4285 : H4250 x 3 = H x 3 := ((f4255 x 3 _ gx rfl).trans (f4227 x 3 _ gx rfl))
      have q4286 : H4250 x 3 = (ce8 : Int) := k4285.trans ece8
      have h4287 : HDR T H4250 ce8  := (HDR_fr w4226 gce8 f4255 rfl (HDR_fr hW gce8 f4227 rfl hhdr8))
      have h4288 : RY T H4250 m (d8 0 3) g8 (H m 32) := (RY_fr w4226 gm f4255 rfl (RY_fr hW gm f4227 rfl h4216))
      have h4289 : RB T H4250 m e8 d8 := (RB_fr w4226 gm f4255 rfl h4246)
      exact WL.loc hX (by simp) (next T H4250 ⟨⟨w4254, g0, gx, gm, go, by omega, by omega⟩, ⟨_, tc, tm, cu, dr, _, _, _, _, _, ce8, q4268, gtc, h4276, q4270, gtm, h4277, q4272, gcu, q4274, gdr, h4278, h4279, h4280, h4281, h4282, hC1, hC2, h4283, h4289, (h4284).1, (h4288).1, hE, hZ, (by omega), (by assumption), (by omega), (by first | assumption | exact SG_0), q4286, gce8, h4275, h4287, a4260, gm⟩, by omega, by omega⟩ (by omega) (by omega))
    · exfalso
      omega
  · refine wl_of hX hb cL_1125 (rw_iconst (pc' := 1126) rfl ?_)
    refine wl_of hX hb cL_1126 (rw_goto (p1 := 1130) (by decide) ?_)
    obtain ⟨B, tc, tm, cu, dr, C8, e8, d8, n8, g8, ce8, e0, gtc, htc, em, gtm, htm, ecu, gcu, edr, gdr, hcu, hdr, hdec, hded, hsp, hC1, hC2, hcu8, hrb8, hcg8, hmn8, hE, hZ, hn8, hXA, hV8, hSG, ece8, gce8, hcen8, hhdr8, hknn8, -⟩ := hXI
    have hN3 := RB_n3 hrb8
    have hE13 : ∀ h : Nat, h < 24 → 0 ≤ e8 13 h ∧ e8 13 h ≤ 100 := fun k hk => by
      obtain ⟨s, h1, h2, h3⟩ := hcu8.1.2.2.1
      exact ⟨(h3 k hk).1, (h3 k hk).2.1⟩
    have hXW := hXA.1
    have hXN := hXA.2
    have hE0 : e8 0 3 = d8 0 3 ∧ e8 0 0 = d8 0 0 := by
      have h := hE 0 (by decide)
      exact ⟨congrFun h 3, congrFun h 0⟩
    have u4290 := CU_k hcu8
    have h4291 : CY T H cu (d8 0 3) g8 (H cu 17) := ⟨hcg8, rfl⟩
    have h4292 : RY T H m (d8 0 3) g8 (H m 32) := ⟨hmn8, rfl⟩
    obtain ⟨t9, ht9⟩ : ∃ t : Int, t = H x 9 := ⟨_, rfl⟩
    obtain ⟨y9, hy9⟩ : ∃ y : Int, y = 1 := ⟨_, rfl⟩
    obtain ⟨r4293, q4294, g4295⟩ := hW.ref gx (t' := 6) (n := 13) (j := 2) (p := 0) (q := 0) rfl (by decide) rfl
    refine wl_of hX hb cL_1130 (xc_V (pc' := 1133) (r := x) (as := [vI (H 0 ((i + 1).toNat)), vI 1]) (st := []) (lm_11_143) rfl rfl (Nat.le_of_ble_eq_true rfl) hW gx sh_1 (by decide) rfl (by decide) (u_119 (e := e8) (d := d8) (n := n8) hW gx ⟨by omega, by omega⟩ ⟨by decide, by decide⟩ ecu gcu q4294 g4295 ece8 gce8 (by assumption) (by assumption) (by omega) (by omega) (by omega) (by omega) hcu8 hcen8 hhdr8) (fun R4296 T4297 H4298 p4299 => ?_))
    obtain ⟨e4300, w4302, f4303, z4304, e4301, b4305, p4306⟩ := p4299
    subst e4300
    subst e4301
    show WL _ _ _ _ 1133 [(4, vI i), (3, .ref o), (2, .ref m), (1, .ref x), (0, .ref 0)] [vI z4304] _ H4298
    refine wl_of hX hb cL_1133 (rw_pop (pc' := 1134) rfl rfl ?_)
    refine wl_of hX hb cL_1134 (rw_aload_n (pc' := 1135) (v := .ref m) rfl rfl rfl ?_)
    refine wl_of hX hb cL_1135 (rw_aload_n (pc' := 1136) (v := .ref 0) rfl rfl rfl ?_)
    refine wl_of hX hb cL_1136 (rw_iload (pc' := 1138) (z := i) rfl rfl ?_)
    refine wl_of hX hb cL_1138 (rw_iconst (pc' := 1139) rfl ?_)
    refine wl_of hX hb cL_1139 (rw_iadd (pc' := 1140) rfl ?_)
    have k4310 : H4298 0 ((i + 1).toNat) = H 0 ((i + 1).toNat) := (f4303 0 ((i + 1).toNat) _ g0 (wmem_s rfl))
    refine wl_of hX hb cL_1140 (xa_I (so := 0) (pc' := 1141) (a := 0) w4302 g0 (wsh_s _) (by omega) (wty_s _ _) (by omega) (by omega) rfl (fun b4308 b4309 => ?_))
    refine wl_of hX hb cL_1141 (rw_aload_n (pc' := 1142) (v := .ref 0) rfl rfl rfl ?_)
    refine wl_of hX hb cL_1142 (rw_iload (pc' := 1144) (z := i) rfl rfl ?_)
    refine wl_of hX hb cL_1144 (rw_iconst (pc' := 1145) rfl ?_)
    refine wl_of hX hb cL_1145 (rw_iadd (pc' := 1146) rfl ?_)
    have k4313 : H4298 0 ((i + 2).toNat) = H 0 ((i + 2).toNat) := (f4303 0 ((i + 2).toNat) _ g0 (wmem_s rfl))
    refine wl_of hX hb cL_1146 (xa_I (so := 0) (pc' := 1147) (a := 0) w4302 g0 (wsh_s _) (by omega) (wty_s _ _) (by omega) (by omega) rfl (fun b4311 b4312 => ?_))
    refine wl_of hX hb cL_1147 (rw_if_eq (p1 := 1154) (p2 := 1150) (by decide) rfl ⟨by omega, by omega⟩ (fun c4314 => ?_) (fun c4314 => ?_))
    · refine wl_of hX hb cL_1154 (rw_iconst (pc' := 1155) rfl ?_)
      have k4315 : wKI H4298 m = wKI H m := (wKI_fr hW gm f4303 rfl)
      have k4316 : H4298 x 9 = H x 9 := (f4303 x 9 _ gx rfl)
      have k4317 : H4298 m 6 = H m 6 := (f4303 m 6 _ gm rfl)
      have k4318 : H4298 x 11 = H x 11 := (f4303 x 11 _ gx rfl)
      have k4319 : H4298 m 13 = H m 13 := (f4303 m 13 _ gm rfl)
      have k4320 : H4298 x 8 = H x 8 := (f4303 x 8 _ gx rfl)
      have k4321 : H4298 m 3 = H m 3 := (f4303 m 3 _ gm rfl)
      rw [show H4298 0 ((i + 1).toNat) = H 0 ((i + 1).toNat) by omega]
      have h4322 : RB T H4298 m e8 d8 := (RB_fr hW gm f4303 rfl hrb8)
      have h4323 : KNN T H4298 m e8 d8 := (KNN_fr hW gm f4303 rfl hknn8)
      refine wl_of hX hb cL_1155 (xc_V (pc' := 1158) (r := m) (as := [vI (H 0 ((i + 1).toNat)), vI 0]) (st := []) (lm_11_146) rfl rfl (Nat.le_of_ble_eq_true rfl) w4302 gm sh_42 (by decide) rfl (by decide) (u_265 (e := e8) (d := d8) w4302 gm ⟨by omega, by omega⟩ ⟨by decide, by decide⟩ (by omega) (by assumption) (by assumption) (by assumption) (by assumption) h4322 h4323) (fun R4324 T4325 H4326 p4327 => ?_))
      obtain ⟨e4328, w4330, f4331, z4332, e4329, b4333, p4334⟩ := p4327
      subst e4328
      subst e4329
      obtain ⟨a4335, a4336⟩ := p4334
      show WL _ _ _ _ 1158 [(4, vI i), (3, .ref o), (2, .ref m), (1, .ref x), (0, .ref 0)] [vI z4332] _ H4326
      refine wl_of hX hb cL_1158 (rw_pop (pc' := 1159) rfl rfl ?_)
      refine wl_of hX hb cL_1159 (rw_goto (p1 := 1653) (by decide) ?_)
      have k4337 : H4326 x 9 = H4298 x 9 := (f4331 x 9 _ gx rfl)
      have k4338 : H4326 m 6 = H4298 m 6 := (f4331 m 6 _ gm rfl)
      have k4339 : H4326 x 11 = H4298 x 11 := (f4331 x 11 _ gx rfl)
      have k4340 : H4326 m 13 = H4298 m 13 := (f4331 m 13 _ gm rfl)
      have k4341 : H4326 x 8 = H4298 x 8 := (f4331 x 8 _ gx rfl)
      have k4342 : H4326 m 3 = H4298 m 3 := (f4331 m 3 _ gm rfl)
      have k4343 : H4326 x 0 = H x 0 := ((f4331 x 0 _ gx rfl).trans (f4303 x 0 _ gx rfl))
      have q4344 : H4326 x 0 = (tc : Int) := k4343.trans e0
      have k4345 : H4326 m 5 = H m 5 := ((f4331 m 5 _ gm rfl).trans (f4303 m 5 _ gm rfl))
      have q4346 : H4326 m 5 = (tm : Int) := k4345.trans em
      have k4347 : H4326 x 6 = H x 6 := ((f4331 x 6 _ gx rfl).trans (f4303 x 6 _ gx rfl))
      have q4348 : H4326 x 6 = (cu : Int) := k4347.trans ecu
      have k4349 : H4326 x 7 = H x 7 := ((f4331 x 7 _ gx rfl).trans (f4303 x 7 _ gx rfl))
      have q4350 : H4326 x 7 = (dr : Int) := k4349.trans edr
      have h4351 : CEN T H4326 ce8 e8 d8 := (CEN_fr w4302 gce8 f4331 rfl p4306)
      have h4352 : TP T H4326 tc B := (TP_fr w4302 gtc f4331 rfl (TP_fr hW gtc f4303 rfl htc))
      have h4353 : TM T H4326 tm B := (TM_fr w4302 gtm f4331 rfl (TM_fr hW gtm f4303 rfl htm))
      have h4354 : DD T H4326 cu  := (DD_fr w4302 gcu f4331 rfl (DD_fr hW gcu f4303 rfl hcu))
      have h4355 : DD T H4326 dr  := (DD_fr w4302 gdr f4331 rfl (DD_fr hW gdr f4303 rfl hdr))
      have h4356 : DE T H4326 cu  := (DE_fr w4302 gcu f4331 rfl (DE_fr hW gcu f4303 rfl hdec))
      have h4357 : DE T H4326 dr  := (DE_fr w4302 gdr f4331 rfl (DE_fr hW gdr f4303 rfl hded))
      have h4358 : SP T H4326 x C8 := (SP_fr w4302 gx f4331 rfl (SP_fr hW gx f4303 rfl hsp))
      have h4359 : CU T H4326 cu e8 d8 n8 := (CU_fr w4302 gcu f4331 rfl (CU_fr hW gcu f4303 rfl hcu8))
      have h4360 : CY T H4326 cu (d8 0 3) g8 (H cu 17) := (CY_fr w4302 gcu f4331 rfl (CY_fr hW gcu f4303 rfl h4291))
      have k4361 : H4326 x 3 = H x 3 := ((f4331 x 3 _ gx rfl).trans (f4303 x 3 _ gx rfl))
      have q4362 : H4326 x 3 = (ce8 : Int) := k4361.trans ece8
      have h4363 : HDR T H4326 ce8  := (HDR_fr w4302 gce8 f4331 rfl (HDR_fr hW gce8 f4303 rfl hhdr8))
      have h4364 : RY T H4326 m (d8 0 3) g8 (H m 32) := (RY_fr w4302 gm f4331 rfl (RY_fr hW gm f4303 rfl h4292))
      have h4365 : RB T H4326 m e8 d8 := (RB_fr w4302 gm f4331 rfl h4322)
      exact WL.loc hX (by simp) (next T H4326 ⟨⟨w4330, g0, gx, gm, go, by omega, by omega⟩, ⟨_, tc, tm, cu, dr, _, _, _, _, _, ce8, q4344, gtc, h4352, q4346, gtm, h4353, q4348, gcu, q4350, gdr, h4354, h4355, h4356, h4357, h4358, hC1, hC2, h4359, h4365, (h4360).1, (h4364).1, hE, hZ, (by omega), (by assumption), (by omega), (by first | assumption | exact SG_0), q4362, gce8, h4351, h4363, a4336, gm⟩, by omega, by omega⟩ (by omega) (by omega))
    · refine wl_of hX hb cL_1150 (rw_iconst (pc' := 1151) rfl ?_)
      refine wl_of hX hb cL_1151 (rw_goto (p1 := 1155) (by decide) ?_)
      have k4366 : wKI H4298 m = wKI H m := (wKI_fr hW gm f4303 rfl)
      have k4367 : H4298 x 9 = H x 9 := (f4303 x 9 _ gx rfl)
      have k4368 : H4298 m 6 = H m 6 := (f4303 m 6 _ gm rfl)
      have k4369 : H4298 x 11 = H x 11 := (f4303 x 11 _ gx rfl)
      have k4370 : H4298 m 13 = H m 13 := (f4303 m 13 _ gm rfl)
      have k4371 : H4298 x 8 = H x 8 := (f4303 x 8 _ gx rfl)
      have k4372 : H4298 m 3 = H m 3 := (f4303 m 3 _ gm rfl)
      rw [show H4298 0 ((i + 1).toNat) = H 0 ((i + 1).toNat) by omega]
      have h4373 : RB T H4298 m e8 d8 := (RB_fr hW gm f4303 rfl hrb8)
      have h4374 : KNN T H4298 m e8 d8 := (KNN_fr hW gm f4303 rfl hknn8)
      refine wl_of hX hb cL_1155 (xc_V (pc' := 1158) (r := m) (as := [vI (H 0 ((i + 1).toNat)), vI 1]) (st := []) (lm_11_146) rfl rfl (Nat.le_of_ble_eq_true rfl) w4302 gm sh_42 (by decide) rfl (by decide) (u_265 (e := e8) (d := d8) w4302 gm ⟨by omega, by omega⟩ ⟨by decide, by decide⟩ (by omega) (by assumption) (by assumption) (by assumption) (by assumption) h4373 h4374) (fun R4375 T4376 H4377 p4378 => ?_))
      obtain ⟨e4379, w4381, f4382, z4383, e4380, b4384, p4385⟩ := p4378
      subst e4379
      subst e4380
      obtain ⟨a4386, a4387⟩ := p4385
      show WL _ _ _ _ 1158 [(4, vI i), (3, .ref o), (2, .ref m), (1, .ref x), (0, .ref 0)] [vI z4383] _ H4377
      refine wl_of hX hb cL_1158 (rw_pop (pc' := 1159) rfl rfl ?_)
      refine wl_of hX hb cL_1159 (rw_goto (p1 := 1653) (by decide) ?_)
      have k4388 : H4377 x 9 = H4298 x 9 := (f4382 x 9 _ gx rfl)
      have k4389 : H4377 m 6 = H4298 m 6 := (f4382 m 6 _ gm rfl)
      have k4390 : H4377 x 11 = H4298 x 11 := (f4382 x 11 _ gx rfl)
      have k4391 : H4377 m 13 = H4298 m 13 := (f4382 m 13 _ gm rfl)
      have k4392 : H4377 x 8 = H4298 x 8 := (f4382 x 8 _ gx rfl)
      have k4393 : H4377 m 3 = H4298 m 3 := (f4382 m 3 _ gm rfl)
      have k4394 : H4377 x 0 = H x 0 := ((f4382 x 0 _ gx rfl).trans (f4303 x 0 _ gx rfl))
      have q4395 : H4377 x 0 = (tc : Int) := k4394.trans e0
      have k4396 : H4377 m 5 = H m 5 := ((f4382 m 5 _ gm rfl).trans (f4303 m 5 _ gm rfl))
      have q4397 : H4377 m 5 = (tm : Int) := k4396.trans em
      have k4398 : H4377 x 6 = H x 6 := ((f4382 x 6 _ gx rfl).trans (f4303 x 6 _ gx rfl))
      have q4399 : H4377 x 6 = (cu : Int) := k4398.trans ecu
      have k4400 : H4377 x 7 = H x 7 := ((f4382 x 7 _ gx rfl).trans (f4303 x 7 _ gx rfl))
      have q4401 : H4377 x 7 = (dr : Int) := k4400.trans edr
      have h4402 : CEN T H4377 ce8 e8 d8 := (CEN_fr w4302 gce8 f4382 rfl p4306)
      have h4403 : TP T H4377 tc B := (TP_fr w4302 gtc f4382 rfl (TP_fr hW gtc f4303 rfl htc))
      have h4404 : TM T H4377 tm B := (TM_fr w4302 gtm f4382 rfl (TM_fr hW gtm f4303 rfl htm))
      have h4405 : DD T H4377 cu  := (DD_fr w4302 gcu f4382 rfl (DD_fr hW gcu f4303 rfl hcu))
      have h4406 : DD T H4377 dr  := (DD_fr w4302 gdr f4382 rfl (DD_fr hW gdr f4303 rfl hdr))
      have h4407 : DE T H4377 cu  := (DE_fr w4302 gcu f4382 rfl (DE_fr hW gcu f4303 rfl hdec))
      have h4408 : DE T H4377 dr  := (DE_fr w4302 gdr f4382 rfl (DE_fr hW gdr f4303 rfl hded))
      have h4409 : SP T H4377 x C8 := (SP_fr w4302 gx f4382 rfl (SP_fr hW gx f4303 rfl hsp))
      have h4410 : CU T H4377 cu e8 d8 n8 := (CU_fr w4302 gcu f4382 rfl (CU_fr hW gcu f4303 rfl hcu8))
      have h4411 : CY T H4377 cu (d8 0 3) g8 (H cu 17) := (CY_fr w4302 gcu f4382 rfl (CY_fr hW gcu f4303 rfl h4291))
      have k4412 : H4377 x 3 = H x 3 := ((f4382 x 3 _ gx rfl).trans (f4303 x 3 _ gx rfl))
      have q4413 : H4377 x 3 = (ce8 : Int) := k4412.trans ece8
      have h4414 : HDR T H4377 ce8  := (HDR_fr w4302 gce8 f4382 rfl (HDR_fr hW gce8 f4303 rfl hhdr8))
      have h4415 : RY T H4377 m (d8 0 3) g8 (H m 32) := (RY_fr w4302 gm f4382 rfl (RY_fr hW gm f4303 rfl h4292))
      have h4416 : RB T H4377 m e8 d8 := (RB_fr w4302 gm f4382 rfl h4373)
      exact WL.loc hX (by simp) (next T H4377 ⟨⟨w4381, g0, gx, gm, go, by omega, by omega⟩, ⟨_, tc, tm, cu, dr, _, _, _, _, _, ce8, q4395, gtc, h4403, q4397, gtm, h4404, q4399, gcu, q4401, gdr, h4405, h4406, h4407, h4408, h4409, hC1, hC2, h4410, h4416, (h4411).1, (h4415).1, hE, hZ, (by omega), (by assumption), (by omega), (by first | assumption | exact SG_0), q4413, gce8, h4402, h4414, a4387, gm⟩, by omega, by omega⟩ (by omega) (by omega))
set_option maxHeartbeats 4000000 in
theorem wl_c30 {kt : Nat → Option mc_E} {CB SB : Nat} {X : mc_S → Prop} {T : wq_T} {H : wq_H} {Len x m o : Nat} {i : Int} (hX : wlX kt CB SB X) (hb : T.2.1 ≤ CB ∧ T.2.2.1 ≤ SB) (hI : wlJ Len x m o T H) (hL : Len ≤ 3072) (hi : 0 ≤ i ∧ i + 6 ≤ Len) (hb2 : T.2.1 + 20 ≤ CB ∧ T.2.2.1 + 500 ≤ SB)  (next : ∀ T' H', wlJ Len x m o T' H' → T'.2.1 ≤ T.2.1 + 20 → T'.2.2.1 ≤ T.2.2.1 + 500 → WL kt CB SB X 1653 (wlL i x m o) [] T' H') : WL kt CB SB X 1162 (wlL i x m o) [] T H := by
  obtain ⟨⟨hW, g0, gx, gm, go, hK, hr⟩, hXI, hY1, hY2⟩ := hI
  refine wl_of hX hb cL_1162 (rw_aload_n (pc' := 1163) (v := .ref x) rfl rfl rfl ?_)
  obtain ⟨B, tc, tm, cu, dr, C8, e8, d8, n8, g8, ce8, e0, gtc, htc, em, gtm, htm, ecu, gcu, edr, gdr, hcu, hdr, hdec, hded, hsp, hC1, hC2, hcu8, hrb8, hcg8, hmn8, hE, hZ, hn8, hXA, hV8, hSG, ece8, gce8, hcen8, hhdr8, hknn8, -⟩ := hXI
  have hN3 := RB_n3 hrb8
  have hE13 : ∀ h : Nat, h < 24 → 0 ≤ e8 13 h ∧ e8 13 h ≤ 100 := fun k hk => by
    obtain ⟨s, h1, h2, h3⟩ := hcu8.1.2.2.1
    exact ⟨(h3 k hk).1, (h3 k hk).2.1⟩
  have hXW := hXA.1
  have hXN := hXA.2
  have hE0 : e8 0 3 = d8 0 3 ∧ e8 0 0 = d8 0 0 := by
    have h := hE 0 (by decide)
    exact ⟨congrFun h 3, congrFun h 0⟩
  have u4417 := CU_k hcu8
  have h4418 : CY T H cu (d8 0 3) g8 (H cu 17) := ⟨hcg8, rfl⟩
  have h4419 : RY T H m (d8 0 3) g8 (H m 32) := ⟨hmn8, rfl⟩
  obtain ⟨t9, ht9⟩ : ∃ t : Int, t = H x 9 := ⟨_, rfl⟩
  obtain ⟨r4420, q4421, g4422⟩ := hW.ref gx (t' := 6) (n := 13) (j := 2) (p := 0) (q := 0) rfl (by decide) rfl
  refine wl_of hX hb cL_1163 (xc_V (pc' := 1166) (r := x) (as := []) (st := []) (lm_11_147) rfl rfl (Nat.le_of_ble_eq_true rfl) hW gx sh_1 (by decide) rfl (by decide) (u_120 (e := e8) (d := d8) (n := n8) hW gx ecu gcu q4421 g4422 ece8 gce8 (by assumption) (by assumption) (by omega) (by omega) (by omega) (by omega) hcu8 hcen8 hhdr8) (fun R4423 T4424 H4425 p4426 => ?_))
  obtain ⟨e4427, w4429, f4430, z4431, e4428, b4432, p4433⟩ := p4426
  subst e4427
  subst e4428
  show WL _ _ _ _ 1166 [(4, vI i), (3, .ref o), (2, .ref m), (1, .ref x), (0, .ref 0)] [vI z4431] _ H4425
  refine wl_of hX hb cL_1166 (rw_pop (pc' := 1167) rfl rfl ?_)
  refine wl_of hX hb cL_1167 (rw_aload_n (pc' := 1168) (v := .ref m) rfl rfl rfl ?_)
  have k4435 : wKI H4425 m = wKI H m := (wKI_fr hW gm f4430 rfl)
  have k4436 : H4425 x 9 = H x 9 := (f4430 x 9 _ gx rfl)
  have k4437 : H4425 m 6 = H m 6 := (f4430 m 6 _ gm rfl)
  have k4438 : H4425 x 11 = H x 11 := (f4430 x 11 _ gx rfl)
  have k4439 : H4425 m 13 = H m 13 := (f4430 m 13 _ gm rfl)
  have k4440 : H4425 x 8 = H x 8 := (f4430 x 8 _ gx rfl)
  have k4441 : H4425 m 3 = H m 3 := (f4430 m 3 _ gm rfl)
  have h4442 : RB T H4425 m e8 d8 := (RB_fr hW gm f4430 rfl hrb8)
  have h4443 : KNN T H4425 m e8 d8 := (KNN_fr hW gm f4430 rfl hknn8)
  refine wl_of hX hb cL_1168 (xc_V (pc' := 1171) (r := m) (as := []) (st := []) (lm_11_150) rfl rfl (Nat.le_of_ble_eq_true rfl) w4429 gm sh_42 (by decide) rfl (by decide) (u_266 (e := e8) (d := d8) w4429 gm (by omega) (by assumption) (by assumption) (by assumption) (by assumption) h4442 h4443) (fun R4444 T4445 H4446 p4447 => ?_))
  obtain ⟨e4448, w4450, f4451, z4452, e4449, b4453, p4454⟩ := p4447
  subst e4448
  subst e4449
  obtain ⟨a4455, a4456⟩ := p4454
  show WL _ _ _ _ 1171 [(4, vI i), (3, .ref o), (2, .ref m), (1, .ref x), (0, .ref 0)] [vI z4452] _ H4446
  refine wl_of hX hb cL_1171 (rw_pop (pc' := 1172) rfl rfl ?_)
  refine wl_of hX hb cL_1172 (rw_goto (p1 := 1653) (by decide) ?_)
  have k4457 : H4446 x 9 = H4425 x 9 := (f4451 x 9 _ gx rfl)
  have k4458 : H4446 m 6 = H4425 m 6 := (f4451 m 6 _ gm rfl)
  have k4459 : H4446 x 11 = H4425 x 11 := (f4451 x 11 _ gx rfl)
  have k4460 : H4446 m 13 = H4425 m 13 := (f4451 m 13 _ gm rfl)
  have k4461 : H4446 x 8 = H4425 x 8 := (f4451 x 8 _ gx rfl)
  have k4462 : H4446 m 3 = H4425 m 3 := (f4451 m 3 _ gm rfl)
  have k4463 : H4446 x 0 = H x 0 := ((f4451 x 0 _ gx rfl).trans (f4430 x 0 _ gx rfl))
  have q4464 : H4446 x 0 = (tc : Int) := k4463.trans e0
  have k4465 : H4446 m 5 = H m 5 := ((f4451 m 5 _ gm rfl).trans (f4430 m 5 _ gm rfl))
  have q4466 : H4446 m 5 = (tm : Int) := k4465.trans em
  have k4467 : H4446 x 6 = H x 6 := ((f4451 x 6 _ gx rfl).trans (f4430 x 6 _ gx rfl))
  have q4468 : H4446 x 6 = (cu : Int) := k4467.trans ecu
  have k4469 : H4446 x 7 = H x 7 := ((f4451 x 7 _ gx rfl).trans (f4430 x 7 _ gx rfl))
  have q4470 : H4446 x 7 = (dr : Int) := k4469.trans edr
  have h4471 : CEN T H4446 ce8 e8 d8 := (CEN_fr w4429 gce8 f4451 rfl p4433)
  have h4472 : TP T H4446 tc B := (TP_fr w4429 gtc f4451 rfl (TP_fr hW gtc f4430 rfl htc))
  have h4473 : TM T H4446 tm B := (TM_fr w4429 gtm f4451 rfl (TM_fr hW gtm f4430 rfl htm))
  have h4474 : DD T H4446 cu  := (DD_fr w4429 gcu f4451 rfl (DD_fr hW gcu f4430 rfl hcu))
  have h4475 : DD T H4446 dr  := (DD_fr w4429 gdr f4451 rfl (DD_fr hW gdr f4430 rfl hdr))
  have h4476 : DE T H4446 cu  := (DE_fr w4429 gcu f4451 rfl (DE_fr hW gcu f4430 rfl hdec))
  have h4477 : DE T H4446 dr  := (DE_fr w4429 gdr f4451 rfl (DE_fr hW gdr f4430 rfl hded))
  have h4478 : SP T H4446 x C8 := (SP_fr w4429 gx f4451 rfl (SP_fr hW gx f4430 rfl hsp))
  have h4479 : CU T H4446 cu e8 d8 n8 := (CU_fr w4429 gcu f4451 rfl (CU_fr hW gcu f4430 rfl hcu8))
  have h4480 : CY T H4446 cu (d8 0 3) g8 (H cu 17) := (CY_fr w4429 gcu f4451 rfl (CY_fr hW gcu f4430 rfl h4418))
  have k4481 : H4446 x 3 = H x 3 := ((f4451 x 3 _ gx rfl).trans (f4430 x 3 _ gx rfl))
  have q4482 : H4446 x 3 = (ce8 : Int) := k4481.trans ece8
  have h4483 : HDR T H4446 ce8  := (HDR_fr w4429 gce8 f4451 rfl (HDR_fr hW gce8 f4430 rfl hhdr8))
  have h4484 : RY T H4446 m (d8 0 3) g8 (H m 32) := (RY_fr w4429 gm f4451 rfl (RY_fr hW gm f4430 rfl h4419))
  have h4485 : RB T H4446 m e8 d8 := (RB_fr w4429 gm f4451 rfl h4442)
  exact WL.loc hX (by simp) (next T H4446 ⟨⟨w4450, g0, gx, gm, go, by omega, by omega⟩, ⟨_, tc, tm, cu, dr, _, _, _, _, _, ce8, q4464, gtc, h4472, q4466, gtm, h4473, q4468, gcu, q4470, gdr, h4474, h4475, h4476, h4477, h4478, hC1, hC2, h4479, h4485, (h4480).1, (h4484).1, hE, hZ, (by omega), (by assumption), (by omega), (by first | assumption | exact SG_0), q4482, gce8, h4471, h4483, a4456, gm⟩, by omega, by omega⟩ (by omega) (by omega))
set_option maxHeartbeats 4000000 in
theorem wl_c31 {kt : Nat → Option mc_E} {CB SB : Nat} {X : mc_S → Prop} {T : wq_T} {H : wq_H} {Len x m o : Nat} {i : Int} (hX : wlX kt CB SB X) (hb : T.2.1 ≤ CB ∧ T.2.2.1 ≤ SB) (hI : wlJ Len x m o T H) (hL : Len ≤ 3072) (hi : 0 ≤ i ∧ i + 6 ≤ Len) (hb2 : T.2.1 + 20 ≤ CB ∧ T.2.2.1 + 500 ≤ SB)  (next : ∀ T' H', wlJ Len x m o T' H' → T'.2.1 ≤ T.2.1 + 20 → T'.2.2.1 ≤ T.2.2.1 + 500 → WL kt CB SB X 1653 (wlL i x m o) [] T' H') : WL kt CB SB X 1175 (wlL i x m o) [] T H := by
  obtain ⟨⟨hW, g0, gx, gm, go, hK, hr⟩, hXI, hY1, hY2⟩ := hI
  refine wl_of hX hb cL_1175 (rw_aload_n (pc' := 1176) (v := .ref x) rfl rfl rfl ?_)
  refine wl_of hX hb cL_1176 (rw_aload_n (pc' := 1177) (v := .ref 0) rfl rfl rfl ?_)
  refine wl_of hX hb cL_1177 (rw_iload (pc' := 1179) (z := i) rfl rfl ?_)
  refine wl_of hX hb cL_1179 (rw_iconst (pc' := 1180) rfl ?_)
  refine wl_of hX hb cL_1180 (rw_iadd (pc' := 1181) rfl ?_)
  refine wl_of hX hb cL_1181 (xa_I (so := 0) (pc' := 1182) (a := 0) hW g0 (wsh_s _) (by omega) (wty_s _ _) (by omega) (by omega) rfl (fun b4486 b4487 => ?_))
  obtain ⟨B, tc, tm, cu, dr, C8, e8, d8, n8, g8, ce8, e0, gtc, htc, em, gtm, htm, ecu, gcu, edr, gdr, hcu, hdr, hdec, hded, hsp, hC1, hC2, hcu8, hrb8, hcg8, hmn8, hE, hZ, hn8, hXA, hV8, hSG, ece8, gce8, hcen8, hhdr8, hknn8, -⟩ := hXI
  have hN3 := RB_n3 hrb8
  have hE13 : ∀ h : Nat, h < 24 → 0 ≤ e8 13 h ∧ e8 13 h ≤ 100 := fun k hk => by
    obtain ⟨s, h1, h2, h3⟩ := hcu8.1.2.2.1
    exact ⟨(h3 k hk).1, (h3 k hk).2.1⟩
  have hXW := hXA.1
  have hXN := hXA.2
  have hE0 : e8 0 3 = d8 0 3 ∧ e8 0 0 = d8 0 0 := by
    have h := hE 0 (by decide)
    exact ⟨congrFun h 3, congrFun h 0⟩
  have u4488 := CU_k hcu8
  have h4489 : CY T H cu (d8 0 3) g8 (H cu 17) := ⟨hcg8, rfl⟩
  have h4490 : RY T H m (d8 0 3) g8 (H m 32) := ⟨hmn8, rfl⟩
  obtain ⟨t9, ht9⟩ : ∃ t : Int, t = H x 9 := ⟨_, rfl⟩
  obtain ⟨y9, hy9⟩ : ∃ y : Int, y = H 0 ((i + 1).toNat) := ⟨_, rfl⟩
  obtain ⟨r4491, q4492, g4493⟩ := hW.ref gx (t' := 6) (n := 13) (j := 2) (p := 0) (q := 0) rfl (by decide) rfl
  refine wl_of hX hb cL_1182 (xc_V (pc' := 1185) (r := x) (as := [vI (H 0 ((i + 1).toNat))]) (st := []) (lm_11_151) rfl rfl (Nat.le_of_ble_eq_true rfl) hW gx sh_1 (by decide) rfl (by decide) (u_130 (e := e8) (d := d8) (n := n8) hW gx ⟨by omega, by omega⟩ ecu gcu q4492 g4493 ece8 gce8 (by assumption) (by assumption) (by omega) (by omega) (by omega) (by omega) hcu8 hcen8 hhdr8) (fun R4494 T4495 H4496 p4497 => ?_))
  obtain ⟨e4498, w4500, f4501, z4502, e4499, b4503, p4504⟩ := p4497
  subst e4498
  subst e4499
  show WL _ _ _ _ 1185 [(4, vI i), (3, .ref o), (2, .ref m), (1, .ref x), (0, .ref 0)] [vI z4502] _ H4496
  refine wl_of hX hb cL_1185 (rw_pop (pc' := 1186) rfl rfl ?_)
  refine wl_of hX hb cL_1186 (rw_aload_n (pc' := 1187) (v := .ref m) rfl rfl rfl ?_)
  refine wl_of hX hb cL_1187 (rw_aload_n (pc' := 1188) (v := .ref 0) rfl rfl rfl ?_)
  refine wl_of hX hb cL_1188 (rw_iload (pc' := 1190) (z := i) rfl rfl ?_)
  refine wl_of hX hb cL_1190 (rw_iconst (pc' := 1191) rfl ?_)
  refine wl_of hX hb cL_1191 (rw_iadd (pc' := 1192) rfl ?_)
  have k4508 : H4496 0 ((i + 1).toNat) = H 0 ((i + 1).toNat) := (f4501 0 ((i + 1).toNat) _ g0 (wmem_s rfl))
  refine wl_of hX hb cL_1192 (xa_I (so := 0) (pc' := 1193) (a := 0) w4500 g0 (wsh_s _) (by omega) (wty_s _ _) (by omega) (by omega) rfl (fun b4506 b4507 => ?_))
  have k4509 : wKI H4496 m = wKI H m := (wKI_fr hW gm f4501 rfl)
  have k4510 : H4496 x 9 = H x 9 := (f4501 x 9 _ gx rfl)
  have k4511 : H4496 m 6 = H m 6 := (f4501 m 6 _ gm rfl)
  have k4512 : H4496 x 11 = H x 11 := (f4501 x 11 _ gx rfl)
  have k4513 : H4496 m 13 = H m 13 := (f4501 m 13 _ gm rfl)
  have k4514 : H4496 x 8 = H x 8 := (f4501 x 8 _ gx rfl)
  have k4515 : H4496 m 3 = H m 3 := (f4501 m 3 _ gm rfl)
  rw [show H4496 0 ((i + 1).toNat) = H 0 ((i + 1).toNat) by omega]
  have h4516 : RB T H4496 m e8 d8 := (RB_fr hW gm f4501 rfl hrb8)
  have h4517 : KNN T H4496 m e8 d8 := (KNN_fr hW gm f4501 rfl hknn8)
  refine wl_of hX hb cL_1193 (xc_V (pc' := 1196) (r := m) (as := [vI (H 0 ((i + 1).toNat))]) (st := []) (lm_11_154) rfl rfl (Nat.le_of_ble_eq_true rfl) w4500 gm sh_42 (by decide) rfl (by decide) (u_271 (e := e8) (d := d8) w4500 gm ⟨by omega, by omega⟩ (by omega) (by assumption) (by assumption) (by assumption) (by assumption) h4516 h4517) (fun R4518 T4519 H4520 p4521 => ?_))
  obtain ⟨e4522, w4524, f4525, z4526, e4523, b4527, p4528⟩ := p4521
  subst e4522
  subst e4523
  obtain ⟨a4529, a4530⟩ := p4528
  show WL _ _ _ _ 1196 [(4, vI i), (3, .ref o), (2, .ref m), (1, .ref x), (0, .ref 0)] [vI z4526] _ H4520
  refine wl_of hX hb cL_1196 (rw_pop (pc' := 1197) rfl rfl ?_)
  refine wl_of hX hb cL_1197 (rw_goto (p1 := 1653) (by decide) ?_)
  have k4531 : H4520 x 9 = H4496 x 9 := (f4525 x 9 _ gx rfl)
  have k4532 : H4520 m 6 = H4496 m 6 := (f4525 m 6 _ gm rfl)
  have k4533 : H4520 x 11 = H4496 x 11 := (f4525 x 11 _ gx rfl)
  have k4534 : H4520 m 13 = H4496 m 13 := (f4525 m 13 _ gm rfl)
  have k4535 : H4520 x 8 = H4496 x 8 := (f4525 x 8 _ gx rfl)
  have k4536 : H4520 m 3 = H4496 m 3 := (f4525 m 3 _ gm rfl)
  have k4537 : H4520 x 0 = H x 0 := ((f4525 x 0 _ gx rfl).trans (f4501 x 0 _ gx rfl))
  have q4538 : H4520 x 0 = (tc : Int) := k4537.trans e0
  have k4539 : H4520 m 5 = H m 5 := ((f4525 m 5 _ gm rfl).trans (f4501 m 5 _ gm rfl))
  have q4540 : H4520 m 5 = (tm : Int) := k4539.trans em
  have k4541 : H4520 x 6 = H x 6 := ((f4525 x 6 _ gx rfl).trans (f4501 x 6 _ gx rfl))
  have q4542 : H4520 x 6 = (cu : Int) := k4541.trans ecu
  have k4543 : H4520 x 7 = H x 7 := ((f4525 x 7 _ gx rfl).trans (f4501 x 7 _ gx rfl))
  have q4544 : H4520 x 7 = (dr : Int) := k4543.trans edr
  have h4545 : CEN T H4520 ce8 e8 d8 := (CEN_fr w4500 gce8 f4525 rfl p4504)
  have h4546 : TP T H4520 tc B := (TP_fr w4500 gtc f4525 rfl (TP_fr hW gtc f4501 rfl htc))
  have h4547 : TM T H4520 tm B := (TM_fr w4500 gtm f4525 rfl (TM_fr hW gtm f4501 rfl htm))
  have h4548 : DD T H4520 cu  := (DD_fr w4500 gcu f4525 rfl (DD_fr hW gcu f4501 rfl hcu))
  have h4549 : DD T H4520 dr  := (DD_fr w4500 gdr f4525 rfl (DD_fr hW gdr f4501 rfl hdr))
  have h4550 : DE T H4520 cu  := (DE_fr w4500 gcu f4525 rfl (DE_fr hW gcu f4501 rfl hdec))
  have h4551 : DE T H4520 dr  := (DE_fr w4500 gdr f4525 rfl (DE_fr hW gdr f4501 rfl hded))
  have h4552 : SP T H4520 x C8 := (SP_fr w4500 gx f4525 rfl (SP_fr hW gx f4501 rfl hsp))
  have h4553 : CU T H4520 cu e8 d8 n8 := (CU_fr w4500 gcu f4525 rfl (CU_fr hW gcu f4501 rfl hcu8))
  have h4554 : CY T H4520 cu (d8 0 3) g8 (H cu 17) := (CY_fr w4500 gcu f4525 rfl (CY_fr hW gcu f4501 rfl h4489))
  have k4555 : H4520 x 3 = H x 3 := ((f4525 x 3 _ gx rfl).trans (f4501 x 3 _ gx rfl))
  have q4556 : H4520 x 3 = (ce8 : Int) := k4555.trans ece8
  have h4557 : HDR T H4520 ce8  := (HDR_fr w4500 gce8 f4525 rfl (HDR_fr hW gce8 f4501 rfl hhdr8))
  have h4558 : RY T H4520 m (d8 0 3) g8 (H m 32) := (RY_fr w4500 gm f4525 rfl (RY_fr hW gm f4501 rfl h4490))
  have h4559 : RB T H4520 m e8 d8 := (RB_fr w4500 gm f4525 rfl h4516)
  exact WL.loc hX (by simp) (next T H4520 ⟨⟨w4524, g0, gx, gm, go, by omega, by omega⟩, ⟨_, tc, tm, cu, dr, _, _, _, _, _, ce8, q4538, gtc, h4546, q4540, gtm, h4547, q4542, gcu, q4544, gdr, h4548, h4549, h4550, h4551, h4552, hC1, hC2, h4553, h4559, (h4554).1, (h4558).1, hE, hZ, (by omega), (by assumption), (by omega), (by first | assumption | exact SG_0), q4556, gce8, h4545, h4557, a4530, gm⟩, by omega, by omega⟩ (by omega) (by omega))
set_option maxHeartbeats 4000000 in
theorem wl_c32 {kt : Nat → Option mc_E} {CB SB : Nat} {X : mc_S → Prop} {T : wq_T} {H : wq_H} {Len x m o : Nat} {i : Int} (hX : wlX kt CB SB X) (hb : T.2.1 ≤ CB ∧ T.2.2.1 ≤ SB) (hI : wlJ Len x m o T H) (hL : Len ≤ 3072) (hi : 0 ≤ i ∧ i + 6 ≤ Len) (hb2 : T.2.1 + 20 ≤ CB ∧ T.2.2.1 + 500 ≤ SB)  (next : ∀ T' H', wlJ Len x m o T' H' → T'.2.1 ≤ T.2.1 + 20 → T'.2.2.1 ≤ T.2.2.1 + 500 → WL kt CB SB X 1653 (wlL i x m o) [] T' H') : WL kt CB SB X 1200 (wlL i x m o) [] T H := by
  obtain ⟨⟨hW, g0, gx, gm, go, hK, hr⟩, hXI, hY1, hY2⟩ := hI
  refine wl_of hX hb cL_1200 (rw_aload_n (pc' := 1201) (v := .ref x) rfl rfl rfl ?_)
  refine wl_of hX hb cL_1201 (rw_aload_n (pc' := 1202) (v := .ref 0) rfl rfl rfl ?_)
  refine wl_of hX hb cL_1202 (rw_iload (pc' := 1204) (z := i) rfl rfl ?_)
  refine wl_of hX hb cL_1204 (rw_iconst (pc' := 1205) rfl ?_)
  refine wl_of hX hb cL_1205 (rw_iadd (pc' := 1206) rfl ?_)
  refine wl_of hX hb cL_1206 (xa_I (so := 0) (pc' := 1207) (a := 0) hW g0 (wsh_s _) (by omega) (wty_s _ _) (by omega) (by omega) rfl (fun b4560 b4561 => ?_))
  obtain ⟨B, tc, tm, cu, dr, C8, e8, d8, n8, g8, ce8, e0, gtc, htc, em, gtm, htm, ecu, gcu, edr, gdr, hcu, hdr, hdec, hded, hsp, hC1, hC2, hcu8, hrb8, hcg8, hmn8, hE, hZ, hn8, hXA, hV8, hSG, ece8, gce8, hcen8, hhdr8, hknn8, -⟩ := hXI
  have hN3 := RB_n3 hrb8
  have hE13 : ∀ h : Nat, h < 24 → 0 ≤ e8 13 h ∧ e8 13 h ≤ 100 := fun k hk => by
    obtain ⟨s, h1, h2, h3⟩ := hcu8.1.2.2.1
    exact ⟨(h3 k hk).1, (h3 k hk).2.1⟩
  have hXW := hXA.1
  have hXN := hXA.2
  have hE0 : e8 0 3 = d8 0 3 ∧ e8 0 0 = d8 0 0 := by
    have h := hE 0 (by decide)
    exact ⟨congrFun h 3, congrFun h 0⟩
  have u4562 := CU_k hcu8
  have h4563 : CY T H cu (d8 0 3) g8 (H cu 17) := ⟨hcg8, rfl⟩
  have h4564 : RY T H m (d8 0 3) g8 (H m 32) := ⟨hmn8, rfl⟩
  obtain ⟨t9, ht9⟩ : ∃ t : Int, t = H x 9 := ⟨_, rfl⟩
  obtain ⟨y9, hy9⟩ : ∃ y : Int, y = H 0 ((i + 1).toNat) := ⟨_, rfl⟩
  obtain ⟨r4565, q4566, g4567⟩ := hW.ref gx (t' := 6) (n := 13) (j := 2) (p := 0) (q := 0) rfl (by decide) rfl
  refine wl_of hX hb cL_1207 (xc_V (pc' := 1210) (r := x) (as := [vI (H 0 ((i + 1).toNat))]) (st := []) (lm_11_155) rfl rfl (Nat.le_of_ble_eq_true rfl) hW gx sh_1 (by decide) rfl (by decide) (u_132 (e := e8) (d := d8) (n := n8) hW gx ⟨by omega, by omega⟩ ecu gcu q4566 g4567 ece8 gce8 (by assumption) (by assumption) (by omega) (by omega) (by omega) (by omega) hcu8 hcen8 hhdr8) (fun R4568 T4569 H4570 p4571 => ?_))
  obtain ⟨e4572, w4574, f4575, z4576, e4573, b4577, p4578⟩ := p4571
  subst e4572
  subst e4573
  show WL _ _ _ _ 1210 [(4, vI i), (3, .ref o), (2, .ref m), (1, .ref x), (0, .ref 0)] [vI z4576] _ H4570
  refine wl_of hX hb cL_1210 (rw_pop (pc' := 1211) rfl rfl ?_)
  refine wl_of hX hb cL_1211 (rw_aload_n (pc' := 1212) (v := .ref m) rfl rfl rfl ?_)
  refine wl_of hX hb cL_1212 (rw_aload_n (pc' := 1213) (v := .ref 0) rfl rfl rfl ?_)
  refine wl_of hX hb cL_1213 (rw_iload (pc' := 1215) (z := i) rfl rfl ?_)
  refine wl_of hX hb cL_1215 (rw_iconst (pc' := 1216) rfl ?_)
  refine wl_of hX hb cL_1216 (rw_iadd (pc' := 1217) rfl ?_)
  have k4582 : H4570 0 ((i + 1).toNat) = H 0 ((i + 1).toNat) := (f4575 0 ((i + 1).toNat) _ g0 (wmem_s rfl))
  refine wl_of hX hb cL_1217 (xa_I (so := 0) (pc' := 1218) (a := 0) w4574 g0 (wsh_s _) (by omega) (wty_s _ _) (by omega) (by omega) rfl (fun b4580 b4581 => ?_))
  have k4583 : wKI H4570 m = wKI H m := (wKI_fr hW gm f4575 rfl)
  have k4584 : H4570 x 9 = H x 9 := (f4575 x 9 _ gx rfl)
  have k4585 : H4570 m 6 = H m 6 := (f4575 m 6 _ gm rfl)
  have k4586 : H4570 x 11 = H x 11 := (f4575 x 11 _ gx rfl)
  have k4587 : H4570 m 13 = H m 13 := (f4575 m 13 _ gm rfl)
  have k4588 : H4570 x 8 = H x 8 := (f4575 x 8 _ gx rfl)
  have k4589 : H4570 m 3 = H m 3 := (f4575 m 3 _ gm rfl)
  rw [show H4570 0 ((i + 1).toNat) = H 0 ((i + 1).toNat) by omega]
  have h4590 : RB T H4570 m e8 d8 := (RB_fr hW gm f4575 rfl hrb8)
  have h4591 : KNN T H4570 m e8 d8 := (KNN_fr hW gm f4575 rfl hknn8)
  refine wl_of hX hb cL_1218 (xc_V (pc' := 1221) (r := m) (as := [vI (H 0 ((i + 1).toNat))]) (st := []) (lm_11_158) rfl rfl (Nat.le_of_ble_eq_true rfl) w4574 gm sh_42 (by decide) rfl (by decide) (u_272 (e := e8) (d := d8) w4574 gm ⟨by omega, by omega⟩ (by omega) (by assumption) (by assumption) (by assumption) (by assumption) h4590 h4591) (fun R4592 T4593 H4594 p4595 => ?_))
  obtain ⟨e4596, w4598, f4599, z4600, e4597, b4601, p4602⟩ := p4595
  subst e4596
  subst e4597
  obtain ⟨a4603, a4604⟩ := p4602
  show WL _ _ _ _ 1221 [(4, vI i), (3, .ref o), (2, .ref m), (1, .ref x), (0, .ref 0)] [vI z4600] _ H4594
  refine wl_of hX hb cL_1221 (rw_pop (pc' := 1222) rfl rfl ?_)
  refine wl_of hX hb cL_1222 (rw_goto (p1 := 1653) (by decide) ?_)
  have k4605 : H4594 x 9 = H4570 x 9 := (f4599 x 9 _ gx rfl)
  have k4606 : H4594 m 6 = H4570 m 6 := (f4599 m 6 _ gm rfl)
  have k4607 : H4594 x 11 = H4570 x 11 := (f4599 x 11 _ gx rfl)
  have k4608 : H4594 m 13 = H4570 m 13 := (f4599 m 13 _ gm rfl)
  have k4609 : H4594 x 8 = H4570 x 8 := (f4599 x 8 _ gx rfl)
  have k4610 : H4594 m 3 = H4570 m 3 := (f4599 m 3 _ gm rfl)
  have k4611 : H4594 x 0 = H x 0 := ((f4599 x 0 _ gx rfl).trans (f4575 x 0 _ gx rfl))
  have q4612 : H4594 x 0 = (tc : Int) := k4611.trans e0
  have k4613 : H4594 m 5 = H m 5 := ((f4599 m 5 _ gm rfl).trans (f4575 m 5 _ gm rfl))
  have q4614 : H4594 m 5 = (tm : Int) := k4613.trans em
  have k4615 : H4594 x 6 = H x 6 := ((f4599 x 6 _ gx rfl).trans (f4575 x 6 _ gx rfl))
  have q4616 : H4594 x 6 = (cu : Int) := k4615.trans ecu
  have k4617 : H4594 x 7 = H x 7 := ((f4599 x 7 _ gx rfl).trans (f4575 x 7 _ gx rfl))
  have q4618 : H4594 x 7 = (dr : Int) := k4617.trans edr
  have h4619 : CEN T H4594 ce8 e8 d8 := (CEN_fr w4574 gce8 f4599 rfl p4578)
  have h4620 : TP T H4594 tc B := (TP_fr w4574 gtc f4599 rfl (TP_fr hW gtc f4575 rfl htc))
  have h4621 : TM T H4594 tm B := (TM_fr w4574 gtm f4599 rfl (TM_fr hW gtm f4575 rfl htm))
  have h4622 : DD T H4594 cu  := (DD_fr w4574 gcu f4599 rfl (DD_fr hW gcu f4575 rfl hcu))
  have h4623 : DD T H4594 dr  := (DD_fr w4574 gdr f4599 rfl (DD_fr hW gdr f4575 rfl hdr))
  have h4624 : DE T H4594 cu  := (DE_fr w4574 gcu f4599 rfl (DE_fr hW gcu f4575 rfl hdec))
  have h4625 : DE T H4594 dr  := (DE_fr w4574 gdr f4599 rfl (DE_fr hW gdr f4575 rfl hded))
  have h4626 : SP T H4594 x C8 := (SP_fr w4574 gx f4599 rfl (SP_fr hW gx f4575 rfl hsp))
  have h4627 : CU T H4594 cu e8 d8 n8 := (CU_fr w4574 gcu f4599 rfl (CU_fr hW gcu f4575 rfl hcu8))
  have h4628 : CY T H4594 cu (d8 0 3) g8 (H cu 17) := (CY_fr w4574 gcu f4599 rfl (CY_fr hW gcu f4575 rfl h4563))
  have k4629 : H4594 x 3 = H x 3 := ((f4599 x 3 _ gx rfl).trans (f4575 x 3 _ gx rfl))
  have q4630 : H4594 x 3 = (ce8 : Int) := k4629.trans ece8
  have h4631 : HDR T H4594 ce8  := (HDR_fr w4574 gce8 f4599 rfl (HDR_fr hW gce8 f4575 rfl hhdr8))
  have h4632 : RY T H4594 m (d8 0 3) g8 (H m 32) := (RY_fr w4574 gm f4599 rfl (RY_fr hW gm f4575 rfl h4564))
  have h4633 : RB T H4594 m e8 d8 := (RB_fr w4574 gm f4599 rfl h4590)
  exact WL.loc hX (by simp) (next T H4594 ⟨⟨w4598, g0, gx, gm, go, by omega, by omega⟩, ⟨_, tc, tm, cu, dr, _, _, _, _, _, ce8, q4612, gtc, h4620, q4614, gtm, h4621, q4616, gcu, q4618, gdr, h4622, h4623, h4624, h4625, h4626, hC1, hC2, h4627, h4633, (h4628).1, (h4632).1, hE, hZ, (by omega), (by assumption), (by omega), (by first | assumption | exact SG_0), q4630, gce8, h4619, h4631, a4604, gm⟩, by omega, by omega⟩ (by omega) (by omega))
set_option maxHeartbeats 4000000 in
theorem wl_c33 {kt : Nat → Option mc_E} {CB SB : Nat} {X : mc_S → Prop} {T : wq_T} {H : wq_H} {Len x m o : Nat} {i : Int} (hX : wlX kt CB SB X) (hb : T.2.1 ≤ CB ∧ T.2.2.1 ≤ SB) (hI : wlJ Len x m o T H) (hL : Len ≤ 3072) (hi : 0 ≤ i ∧ i + 6 ≤ Len) (hb2 : T.2.1 + 20 ≤ CB ∧ T.2.2.1 + 500 ≤ SB)  (next : ∀ T' H', wlJ Len x m o T' H' → T'.2.1 ≤ T.2.1 + 20 → T'.2.2.1 ≤ T.2.2.1 + 500 → WL kt CB SB X 1653 (wlL i x m o) [] T' H') : WL kt CB SB X 1225 (wlL i x m o) [] T H := by
  obtain ⟨⟨hW, g0, gx, gm, go, hK, hr⟩, hXI, hY1, hY2⟩ := hI
  refine wl_of hX hb cL_1225 (rw_aload_n (pc' := 1226) (v := .ref x) rfl rfl rfl ?_)
  refine wl_of hX hb cL_1226 (rw_aload_n (pc' := 1227) (v := .ref 0) rfl rfl rfl ?_)
  refine wl_of hX hb cL_1227 (rw_iload (pc' := 1229) (z := i) rfl rfl ?_)
  refine wl_of hX hb cL_1229 (rw_iconst (pc' := 1230) rfl ?_)
  refine wl_of hX hb cL_1230 (rw_iadd (pc' := 1231) rfl ?_)
  refine wl_of hX hb cL_1231 (xa_I (so := 0) (pc' := 1232) (a := 0) hW g0 (wsh_s _) (by omega) (wty_s _ _) (by omega) (by omega) rfl (fun b4634 b4635 => ?_))
  obtain ⟨B, tc, tm, cu, dr, C8, e8, d8, n8, g8, ce8, e0, gtc, htc, em, gtm, htm, ecu, gcu, edr, gdr, hcu, hdr, hdec, hded, hsp, hC1, hC2, hcu8, hrb8, hcg8, hmn8, hE, hZ, hn8, hXA, hV8, hSG, ece8, gce8, hcen8, hhdr8, hknn8, -⟩ := hXI
  have hN3 := RB_n3 hrb8
  have hE13 : ∀ h : Nat, h < 24 → 0 ≤ e8 13 h ∧ e8 13 h ≤ 100 := fun k hk => by
    obtain ⟨s, h1, h2, h3⟩ := hcu8.1.2.2.1
    exact ⟨(h3 k hk).1, (h3 k hk).2.1⟩
  have hXW := hXA.1
  have hXN := hXA.2
  have hE0 : e8 0 3 = d8 0 3 ∧ e8 0 0 = d8 0 0 := by
    have h := hE 0 (by decide)
    exact ⟨congrFun h 3, congrFun h 0⟩
  have u4636 := CU_k hcu8
  have h4637 : CY T H cu (d8 0 3) g8 (H cu 17) := ⟨hcg8, rfl⟩
  have h4638 : RY T H m (d8 0 3) g8 (H m 32) := ⟨hmn8, rfl⟩
  obtain ⟨t9, ht9⟩ : ∃ t : Int, t = H x 9 := ⟨_, rfl⟩
  obtain ⟨y9, hy9⟩ : ∃ y : Int, y = H 0 ((i + 1).toNat) := ⟨_, rfl⟩
  obtain ⟨r4639, q4640, g4641⟩ := hW.ref gx (t' := 6) (n := 13) (j := 2) (p := 0) (q := 0) rfl (by decide) rfl
  refine wl_of hX hb cL_1232 (xc_V (pc' := 1235) (r := x) (as := [vI (H 0 ((i + 1).toNat))]) (st := []) (lm_11_159) rfl rfl (Nat.le_of_ble_eq_true rfl) hW gx sh_1 (by decide) rfl (by decide) (u_135 (e := e8) (d := d8) (n := n8) hW gx ⟨by omega, by omega⟩ ecu gcu q4640 g4641 ece8 gce8 (by assumption) (by assumption) (by omega) (by omega) (by omega) (by omega) hcu8 hcen8 hhdr8) (fun R4642 T4643 H4644 p4645 => ?_))
  obtain ⟨e4646, w4648, f4649, z4650, e4647, b4651, p4652⟩ := p4645
  subst e4646
  subst e4647
  show WL _ _ _ _ 1235 [(4, vI i), (3, .ref o), (2, .ref m), (1, .ref x), (0, .ref 0)] [vI z4650] _ H4644
  refine wl_of hX hb cL_1235 (rw_pop (pc' := 1236) rfl rfl ?_)
  refine wl_of hX hb cL_1236 (rw_aload_n (pc' := 1237) (v := .ref m) rfl rfl rfl ?_)
  refine wl_of hX hb cL_1237 (rw_aload_n (pc' := 1238) (v := .ref 0) rfl rfl rfl ?_)
  refine wl_of hX hb cL_1238 (rw_iload (pc' := 1240) (z := i) rfl rfl ?_)
  refine wl_of hX hb cL_1240 (rw_iconst (pc' := 1241) rfl ?_)
  refine wl_of hX hb cL_1241 (rw_iadd (pc' := 1242) rfl ?_)
  have k4656 : H4644 0 ((i + 1).toNat) = H 0 ((i + 1).toNat) := (f4649 0 ((i + 1).toNat) _ g0 (wmem_s rfl))
  refine wl_of hX hb cL_1242 (xa_I (so := 0) (pc' := 1243) (a := 0) w4648 g0 (wsh_s _) (by omega) (wty_s _ _) (by omega) (by omega) rfl (fun b4654 b4655 => ?_))
  have k4657 : wKI H4644 m = wKI H m := (wKI_fr hW gm f4649 rfl)
  have k4658 : H4644 x 9 = H x 9 := (f4649 x 9 _ gx rfl)
  have k4659 : H4644 m 6 = H m 6 := (f4649 m 6 _ gm rfl)
  have k4660 : H4644 x 11 = H x 11 := (f4649 x 11 _ gx rfl)
  have k4661 : H4644 m 13 = H m 13 := (f4649 m 13 _ gm rfl)
  have k4662 : H4644 x 8 = H x 8 := (f4649 x 8 _ gx rfl)
  have k4663 : H4644 m 3 = H m 3 := (f4649 m 3 _ gm rfl)
  rw [show H4644 0 ((i + 1).toNat) = H 0 ((i + 1).toNat) by omega]
  have h4664 : RB T H4644 m e8 d8 := (RB_fr hW gm f4649 rfl hrb8)
  have h4665 : KNN T H4644 m e8 d8 := (KNN_fr hW gm f4649 rfl hknn8)
  refine wl_of hX hb cL_1243 (xc_V (pc' := 1246) (r := m) (as := [vI (H 0 ((i + 1).toNat))]) (st := []) (lm_11_162) rfl rfl (Nat.le_of_ble_eq_true rfl) w4648 gm sh_42 (by decide) rfl (by decide) (u_275 (e := e8) (d := d8) w4648 gm ⟨by omega, by omega⟩ (by omega) (by assumption) (by assumption) (by assumption) (by assumption) h4664 h4665) (fun R4666 T4667 H4668 p4669 => ?_))
  obtain ⟨e4670, w4672, f4673, z4674, e4671, b4675, p4676⟩ := p4669
  subst e4670
  subst e4671
  obtain ⟨a4677, a4678⟩ := p4676
  show WL _ _ _ _ 1246 [(4, vI i), (3, .ref o), (2, .ref m), (1, .ref x), (0, .ref 0)] [vI z4674] _ H4668
  refine wl_of hX hb cL_1246 (rw_pop (pc' := 1247) rfl rfl ?_)
  refine wl_of hX hb cL_1247 (rw_goto (p1 := 1653) (by decide) ?_)
  have k4679 : H4668 x 9 = H4644 x 9 := (f4673 x 9 _ gx rfl)
  have k4680 : H4668 m 6 = H4644 m 6 := (f4673 m 6 _ gm rfl)
  have k4681 : H4668 x 11 = H4644 x 11 := (f4673 x 11 _ gx rfl)
  have k4682 : H4668 m 13 = H4644 m 13 := (f4673 m 13 _ gm rfl)
  have k4683 : H4668 x 8 = H4644 x 8 := (f4673 x 8 _ gx rfl)
  have k4684 : H4668 m 3 = H4644 m 3 := (f4673 m 3 _ gm rfl)
  have k4685 : H4668 x 0 = H x 0 := ((f4673 x 0 _ gx rfl).trans (f4649 x 0 _ gx rfl))
  have q4686 : H4668 x 0 = (tc : Int) := k4685.trans e0
  have k4687 : H4668 m 5 = H m 5 := ((f4673 m 5 _ gm rfl).trans (f4649 m 5 _ gm rfl))
  have q4688 : H4668 m 5 = (tm : Int) := k4687.trans em
  have k4689 : H4668 x 6 = H x 6 := ((f4673 x 6 _ gx rfl).trans (f4649 x 6 _ gx rfl))
  have q4690 : H4668 x 6 = (cu : Int) := k4689.trans ecu
  have k4691 : H4668 x 7 = H x 7 := ((f4673 x 7 _ gx rfl).trans (f4649 x 7 _ gx rfl))
  have q4692 : H4668 x 7 = (dr : Int) := k4691.trans edr
  have h4693 : CEN T H4668 ce8 e8 d8 := (CEN_fr w4648 gce8 f4673 rfl p4652)
  have h4694 : TP T H4668 tc B := (TP_fr w4648 gtc f4673 rfl (TP_fr hW gtc f4649 rfl htc))
  have h4695 : TM T H4668 tm B := (TM_fr w4648 gtm f4673 rfl (TM_fr hW gtm f4649 rfl htm))
  have h4696 : DD T H4668 cu  := (DD_fr w4648 gcu f4673 rfl (DD_fr hW gcu f4649 rfl hcu))
  have h4697 : DD T H4668 dr  := (DD_fr w4648 gdr f4673 rfl (DD_fr hW gdr f4649 rfl hdr))
  have h4698 : DE T H4668 cu  := (DE_fr w4648 gcu f4673 rfl (DE_fr hW gcu f4649 rfl hdec))
  have h4699 : DE T H4668 dr  := (DE_fr w4648 gdr f4673 rfl (DE_fr hW gdr f4649 rfl hded))
  have h4700 : SP T H4668 x C8 := (SP_fr w4648 gx f4673 rfl (SP_fr hW gx f4649 rfl hsp))
  have h4701 : CU T H4668 cu e8 d8 n8 := (CU_fr w4648 gcu f4673 rfl (CU_fr hW gcu f4649 rfl hcu8))
  have h4702 : CY T H4668 cu (d8 0 3) g8 (H cu 17) := (CY_fr w4648 gcu f4673 rfl (CY_fr hW gcu f4649 rfl h4637))
  have k4703 : H4668 x 3 = H x 3 := ((f4673 x 3 _ gx rfl).trans (f4649 x 3 _ gx rfl))
  have q4704 : H4668 x 3 = (ce8 : Int) := k4703.trans ece8
  have h4705 : HDR T H4668 ce8  := (HDR_fr w4648 gce8 f4673 rfl (HDR_fr hW gce8 f4649 rfl hhdr8))
  have h4706 : RY T H4668 m (d8 0 3) g8 (H m 32) := (RY_fr w4648 gm f4673 rfl (RY_fr hW gm f4649 rfl h4638))
  have h4707 : RB T H4668 m e8 d8 := (RB_fr w4648 gm f4673 rfl h4664)
  exact WL.loc hX (by simp) (next T H4668 ⟨⟨w4672, g0, gx, gm, go, by omega, by omega⟩, ⟨_, tc, tm, cu, dr, _, _, _, _, _, ce8, q4686, gtc, h4694, q4688, gtm, h4695, q4690, gcu, q4692, gdr, h4696, h4697, h4698, h4699, h4700, hC1, hC2, h4701, h4707, (h4702).1, (h4706).1, hE, hZ, (by omega), (by assumption), (by omega), (by first | assumption | exact SG_0), q4704, gce8, h4693, h4705, a4678, gm⟩, by omega, by omega⟩ (by omega) (by omega))
set_option maxHeartbeats 4000000 in
theorem wl_c34 {kt : Nat → Option mc_E} {CB SB : Nat} {X : mc_S → Prop} {T : wq_T} {H : wq_H} {Len x m o : Nat} {i : Int} (hX : wlX kt CB SB X) (hb : T.2.1 ≤ CB ∧ T.2.2.1 ≤ SB) (hI : wlJ Len x m o T H) (hL : Len ≤ 3072) (hi : 0 ≤ i ∧ i + 6 ≤ Len) (hb2 : T.2.1 + 20 ≤ CB ∧ T.2.2.1 + 500 ≤ SB)  (next : ∀ T' H', wlJ Len x m o T' H' → T'.2.1 ≤ T.2.1 + 20 → T'.2.2.1 ≤ T.2.2.1 + 500 → WL kt CB SB X 1653 (wlL i x m o) [] T' H') : WL kt CB SB X 1250 (wlL i x m o) [] T H := by
  obtain ⟨⟨hW, g0, gx, gm, go, hK, hr⟩, hXI, hY1, hY2⟩ := hI
  refine wl_of hX hb cL_1250 (rw_aload_n (pc' := 1251) (v := .ref x) rfl rfl rfl ?_)
  obtain ⟨B, tc, tm, cu, dr, C8, e8, d8, n8, g8, ce8, e0, gtc, htc, em, gtm, htm, ecu, gcu, edr, gdr, hcu, hdr, hdec, hded, hsp, hC1, hC2, hcu8, hrb8, hcg8, hmn8, hE, hZ, hn8, hXA, hV8, hSG, ece8, gce8, hcen8, hhdr8, hknn8, -⟩ := hXI
  have hN3 := RB_n3 hrb8
  have hE13 : ∀ h : Nat, h < 24 → 0 ≤ e8 13 h ∧ e8 13 h ≤ 100 := fun k hk => by
    obtain ⟨s, h1, h2, h3⟩ := hcu8.1.2.2.1
    exact ⟨(h3 k hk).1, (h3 k hk).2.1⟩
  have hXW := hXA.1
  have hXN := hXA.2
  have hE0 : e8 0 3 = d8 0 3 ∧ e8 0 0 = d8 0 0 := by
    have h := hE 0 (by decide)
    exact ⟨congrFun h 3, congrFun h 0⟩
  have u4708 := CU_k hcu8
  have h4709 : CY T H cu (d8 0 3) g8 (H cu 17) := ⟨hcg8, rfl⟩
  have h4710 : RY T H m (d8 0 3) g8 (H m 32) := ⟨hmn8, rfl⟩
  obtain ⟨t9, ht9⟩ : ∃ t : Int, t = H x 9 := ⟨_, rfl⟩
  obtain ⟨r4711, q4712, g4713⟩ := hW.ref gx (t' := 6) (n := 13) (j := 2) (p := 0) (q := 0) rfl (by decide) rfl
  refine wl_of hX hb cL_1251 (xc_V (pc' := 1254) (r := x) (as := []) (st := []) (lm_11_163) rfl rfl (Nat.le_of_ble_eq_true rfl) hW gx sh_1 (by decide) rfl (by decide) (u_137 (e := e8) (d := d8) (n := n8) hW gx ecu gcu q4712 g4713 ece8 gce8 (by assumption) (by assumption) (by omega) (by omega) (by omega) (by omega) hcu8 hcen8 hhdr8) (fun R4714 T4715 H4716 p4717 => ?_))
  obtain ⟨e4718, w4720, f4721, z4722, e4719, b4723, p4724⟩ := p4717
  subst e4718
  subst e4719
  show WL _ _ _ _ 1254 [(4, vI i), (3, .ref o), (2, .ref m), (1, .ref x), (0, .ref 0)] [vI z4722] _ H4716
  refine wl_of hX hb cL_1254 (rw_pop (pc' := 1255) rfl rfl ?_)
  refine wl_of hX hb cL_1255 (rw_aload_n (pc' := 1256) (v := .ref m) rfl rfl rfl ?_)
  have k4726 : wKI H4716 m = wKI H m := (wKI_fr hW gm f4721 rfl)
  have k4727 : H4716 x 9 = H x 9 := (f4721 x 9 _ gx rfl)
  have k4728 : H4716 m 6 = H m 6 := (f4721 m 6 _ gm rfl)
  have k4729 : H4716 x 11 = H x 11 := (f4721 x 11 _ gx rfl)
  have k4730 : H4716 m 13 = H m 13 := (f4721 m 13 _ gm rfl)
  have k4731 : H4716 x 8 = H x 8 := (f4721 x 8 _ gx rfl)
  have k4732 : H4716 m 3 = H m 3 := (f4721 m 3 _ gm rfl)
  have h4733 : RB T H4716 m e8 d8 := (RB_fr hW gm f4721 rfl hrb8)
  have h4734 : KNN T H4716 m e8 d8 := (KNN_fr hW gm f4721 rfl hknn8)
  refine wl_of hX hb cL_1256 (xc_V (pc' := 1259) (r := m) (as := []) (st := []) (lm_11_166) rfl rfl (Nat.le_of_ble_eq_true rfl) w4720 gm sh_42 (by decide) rfl (by decide) (u_276 (e := e8) (d := d8) w4720 gm (by omega) (by assumption) (by assumption) (by assumption) (by assumption) h4733 h4734) (fun R4735 T4736 H4737 p4738 => ?_))
  obtain ⟨e4739, w4741, f4742, z4743, e4740, b4744, p4745⟩ := p4738
  subst e4739
  subst e4740
  obtain ⟨a4746, a4747⟩ := p4745
  show WL _ _ _ _ 1259 [(4, vI i), (3, .ref o), (2, .ref m), (1, .ref x), (0, .ref 0)] [vI z4743] _ H4737
  refine wl_of hX hb cL_1259 (rw_pop (pc' := 1260) rfl rfl ?_)
  refine wl_of hX hb cL_1260 (rw_goto (p1 := 1653) (by decide) ?_)
  have k4748 : H4737 x 9 = H4716 x 9 := (f4742 x 9 _ gx rfl)
  have k4749 : H4737 m 6 = H4716 m 6 := (f4742 m 6 _ gm rfl)
  have k4750 : H4737 x 11 = H4716 x 11 := (f4742 x 11 _ gx rfl)
  have k4751 : H4737 m 13 = H4716 m 13 := (f4742 m 13 _ gm rfl)
  have k4752 : H4737 x 8 = H4716 x 8 := (f4742 x 8 _ gx rfl)
  have k4753 : H4737 m 3 = H4716 m 3 := (f4742 m 3 _ gm rfl)
  have k4754 : H4737 x 0 = H x 0 := ((f4742 x 0 _ gx rfl).trans (f4721 x 0 _ gx rfl))
  have q4755 : H4737 x 0 = (tc : Int) := k4754.trans e0
  have k4756 : H4737 m 5 = H m 5 := ((f4742 m 5 _ gm rfl).trans (f4721 m 5 _ gm rfl))
  have q4757 : H4737 m 5 = (tm : Int) := k4756.trans em
  have k4758 : H4737 x 6 = H x 6 := ((f4742 x 6 _ gx rfl).trans (f4721 x 6 _ gx rfl))
  have q4759 : H4737 x 6 = (cu : Int) := k4758.trans ecu
  have k4760 : H4737 x 7 = H x 7 := ((f4742 x 7 _ gx rfl).trans (f4721 x 7 _ gx rfl))
  have q4761 : H4737 x 7 = (dr : Int) := k4760.trans edr
  have h4762 : CEN T H4737 ce8 e8 d8 := (CEN_fr w4720 gce8 f4742 rfl p4724)
  have h4763 : TP T H4737 tc B := (TP_fr w4720 gtc f4742 rfl (TP_fr hW gtc f4721 rfl htc))
  have h4764 : TM T H4737 tm B := (TM_fr w4720 gtm f4742 rfl (TM_fr hW gtm f4721 rfl htm))
  have h4765 : DD T H4737 cu  := (DD_fr w4720 gcu f4742 rfl (DD_fr hW gcu f4721 rfl hcu))
  have h4766 : DD T H4737 dr  := (DD_fr w4720 gdr f4742 rfl (DD_fr hW gdr f4721 rfl hdr))
  have h4767 : DE T H4737 cu  := (DE_fr w4720 gcu f4742 rfl (DE_fr hW gcu f4721 rfl hdec))
  have h4768 : DE T H4737 dr  := (DE_fr w4720 gdr f4742 rfl (DE_fr hW gdr f4721 rfl hded))
  have h4769 : SP T H4737 x C8 := (SP_fr w4720 gx f4742 rfl (SP_fr hW gx f4721 rfl hsp))
  have h4770 : CU T H4737 cu e8 d8 n8 := (CU_fr w4720 gcu f4742 rfl (CU_fr hW gcu f4721 rfl hcu8))
  have h4771 : CY T H4737 cu (d8 0 3) g8 (H cu 17) := (CY_fr w4720 gcu f4742 rfl (CY_fr hW gcu f4721 rfl h4709))
  have k4772 : H4737 x 3 = H x 3 := ((f4742 x 3 _ gx rfl).trans (f4721 x 3 _ gx rfl))
  have q4773 : H4737 x 3 = (ce8 : Int) := k4772.trans ece8
  have h4774 : HDR T H4737 ce8  := (HDR_fr w4720 gce8 f4742 rfl (HDR_fr hW gce8 f4721 rfl hhdr8))
  have h4775 : RY T H4737 m (d8 0 3) g8 (H m 32) := (RY_fr w4720 gm f4742 rfl (RY_fr hW gm f4721 rfl h4710))
  have h4776 : RB T H4737 m e8 d8 := (RB_fr w4720 gm f4742 rfl h4733)
  exact WL.loc hX (by simp) (next T H4737 ⟨⟨w4741, g0, gx, gm, go, by omega, by omega⟩, ⟨_, tc, tm, cu, dr, _, _, _, _, _, ce8, q4755, gtc, h4763, q4757, gtm, h4764, q4759, gcu, q4761, gdr, h4765, h4766, h4767, h4768, h4769, hC1, hC2, h4770, h4776, (h4771).1, (h4775).1, hE, hZ, (by omega), (by assumption), (by omega), (by first | assumption | exact SG_0), q4773, gce8, h4762, h4774, a4747, gm⟩, by omega, by omega⟩ (by omega) (by omega))
set_option maxHeartbeats 4000000 in
theorem wl_c35 {kt : Nat → Option mc_E} {CB SB : Nat} {X : mc_S → Prop} {T : wq_T} {H : wq_H} {Len x m o : Nat} {i : Int} (hX : wlX kt CB SB X) (hb : T.2.1 ≤ CB ∧ T.2.2.1 ≤ SB) (hI : wlJ Len x m o T H) (hL : Len ≤ 3072) (hi : 0 ≤ i ∧ i + 6 ≤ Len) (hb2 : T.2.1 + 20 ≤ CB ∧ T.2.2.1 + 500 ≤ SB)  (next : ∀ T' H', wlJ Len x m o T' H' → T'.2.1 ≤ T.2.1 + 20 → T'.2.2.1 ≤ T.2.2.1 + 500 → WL kt CB SB X 1653 (wlL i x m o) [] T' H') : WL kt CB SB X 1263 (wlL i x m o) [] T H := by
  obtain ⟨⟨hW, g0, gx, gm, go, hK, hr⟩, hXI, hY1, hY2⟩ := hI
  refine wl_of hX hb cL_1263 (rw_aload_n (pc' := 1264) (v := .ref x) rfl rfl rfl ?_)
  refine wl_of hX hb cL_1264 (rw_aload_n (pc' := 1265) (v := .ref 0) rfl rfl rfl ?_)
  refine wl_of hX hb cL_1265 (rw_iload (pc' := 1267) (z := i) rfl rfl ?_)
  refine wl_of hX hb cL_1267 (rw_iconst (pc' := 1268) rfl ?_)
  refine wl_of hX hb cL_1268 (rw_iadd (pc' := 1269) rfl ?_)
  refine wl_of hX hb cL_1269 (xa_I (so := 0) (pc' := 1270) (a := 0) hW g0 (wsh_s _) (by omega) (wty_s _ _) (by omega) (by omega) rfl (fun b4777 b4778 => ?_))
  refine wl_of hX hb cL_1270 (rw_aload_n (pc' := 1271) (v := .ref 0) rfl rfl rfl ?_)
  refine wl_of hX hb cL_1271 (rw_iload (pc' := 1273) (z := i) rfl rfl ?_)
  refine wl_of hX hb cL_1273 (rw_iconst (pc' := 1274) rfl ?_)
  refine wl_of hX hb cL_1274 (rw_iadd (pc' := 1275) rfl ?_)
  refine wl_of hX hb cL_1275 (xa_I (so := 0) (pc' := 1276) (a := 0) hW g0 (wsh_s _) (by omega) (wty_s _ _) (by omega) (by omega) rfl (fun b4779 b4780 => ?_))
  refine wl_of hX hb cL_1276 (rw_if_eq (p1 := 1283) (p2 := 1279) (by decide) rfl ⟨by omega, by omega⟩ (fun c4781 => ?_) (fun c4781 => ?_))
  · refine wl_of hX hb cL_1283 (rw_iconst (pc' := 1284) rfl ?_)
    obtain ⟨B, tc, tm, cu, dr, C8, e8, d8, n8, g8, ce8, e0, gtc, htc, em, gtm, htm, ecu, gcu, edr, gdr, hcu, hdr, hdec, hded, hsp, hC1, hC2, hcu8, hrb8, hcg8, hmn8, hE, hZ, hn8, hXA, hV8, hSG, ece8, gce8, hcen8, hhdr8, hknn8, -⟩ := hXI
    have hN3 := RB_n3 hrb8
    have hE13 : ∀ h : Nat, h < 24 → 0 ≤ e8 13 h ∧ e8 13 h ≤ 100 := fun k hk => by
      obtain ⟨s, h1, h2, h3⟩ := hcu8.1.2.2.1
      exact ⟨(h3 k hk).1, (h3 k hk).2.1⟩
    have hXW := hXA.1
    have hXN := hXA.2
    have hE0 : e8 0 3 = d8 0 3 ∧ e8 0 0 = d8 0 0 := by
      have h := hE 0 (by decide)
      exact ⟨congrFun h 3, congrFun h 0⟩
    have u4782 := CU_k hcu8
    have h4783 : CY T H cu (d8 0 3) g8 (H cu 17) := ⟨hcg8, rfl⟩
    have h4784 : RY T H m (d8 0 3) g8 (H m 32) := ⟨hmn8, rfl⟩
    obtain ⟨t9, ht9⟩ : ∃ t : Int, t = H x 9 := ⟨_, rfl⟩
    obtain ⟨y9, hy9⟩ : ∃ y : Int, y = 0 := ⟨_, rfl⟩
    obtain ⟨r4785, q4786, g4787⟩ := hW.ref gx (t' := 6) (n := 13) (j := 2) (p := 0) (q := 0) rfl (by decide) rfl
    refine wl_of hX hb cL_1284 (xc_V (pc' := 1287) (r := x) (as := [vI (H 0 ((i + 1).toNat)), vI 0]) (st := []) (lm_11_167) rfl rfl (Nat.le_of_ble_eq_true rfl) hW gx sh_1 (by decide) rfl (by decide) (u_146 (e := e8) (d := d8) (n := n8) hW gx ⟨by omega, by omega⟩ ⟨by decide, by decide⟩ ecu gcu q4786 g4787 ece8 gce8 (by assumption) (by assumption) (by omega) (by omega) (by omega) (by omega) hcu8 hcen8 hhdr8) (fun R4788 T4789 H4790 p4791 => ?_))
    obtain ⟨e4792, w4794, f4795, z4796, e4793, b4797, p4798⟩ := p4791
    subst e4792
    subst e4793
    show WL _ _ _ _ 1287 [(4, vI i), (3, .ref o), (2, .ref m), (1, .ref x), (0, .ref 0)] [vI z4796] _ H4790
    refine wl_of hX hb cL_1287 (rw_pop (pc' := 1288) rfl rfl ?_)
    refine wl_of hX hb cL_1288 (rw_aload_n (pc' := 1289) (v := .ref m) rfl rfl rfl ?_)
    refine wl_of hX hb cL_1289 (rw_aload_n (pc' := 1290) (v := .ref 0) rfl rfl rfl ?_)
    refine wl_of hX hb cL_1290 (rw_iload (pc' := 1292) (z := i) rfl rfl ?_)
    refine wl_of hX hb cL_1292 (rw_iconst (pc' := 1293) rfl ?_)
    refine wl_of hX hb cL_1293 (rw_iadd (pc' := 1294) rfl ?_)
    have k4802 : H4790 0 ((i + 1).toNat) = H 0 ((i + 1).toNat) := (f4795 0 ((i + 1).toNat) _ g0 (wmem_s rfl))
    refine wl_of hX hb cL_1294 (xa_I (so := 0) (pc' := 1295) (a := 0) w4794 g0 (wsh_s _) (by omega) (wty_s _ _) (by omega) (by omega) rfl (fun b4800 b4801 => ?_))
    refine wl_of hX hb cL_1295 (rw_aload_n (pc' := 1296) (v := .ref 0) rfl rfl rfl ?_)
    refine wl_of hX hb cL_1296 (rw_iload (pc' := 1298) (z := i) rfl rfl ?_)
    refine wl_of hX hb cL_1298 (rw_iconst (pc' := 1299) rfl ?_)
    refine wl_of hX hb cL_1299 (rw_iadd (pc' := 1300) rfl ?_)
    have k4805 : H4790 0 ((i + 2).toNat) = H 0 ((i + 2).toNat) := (f4795 0 ((i + 2).toNat) _ g0 (wmem_s rfl))
    refine wl_of hX hb cL_1300 (xa_I (so := 0) (pc' := 1301) (a := 0) w4794 g0 (wsh_s _) (by omega) (wty_s _ _) (by omega) (by omega) rfl (fun b4803 b4804 => ?_))
    refine wl_of hX hb cL_1301 (rw_if_eq (p1 := 1308) (p2 := 1304) (by decide) rfl ⟨by omega, by omega⟩ (fun c4806 => ?_) (fun c4806 => ?_))
    · refine wl_of hX hb cL_1308 (rw_iconst (pc' := 1309) rfl ?_)
      have k4807 : wKI H4790 m = wKI H m := (wKI_fr hW gm f4795 rfl)
      have k4808 : H4790 x 9 = H x 9 := (f4795 x 9 _ gx rfl)
      have k4809 : H4790 m 6 = H m 6 := (f4795 m 6 _ gm rfl)
      have k4810 : H4790 x 11 = H x 11 := (f4795 x 11 _ gx rfl)
      have k4811 : H4790 m 13 = H m 13 := (f4795 m 13 _ gm rfl)
      have k4812 : H4790 x 8 = H x 8 := (f4795 x 8 _ gx rfl)
      have k4813 : H4790 m 3 = H m 3 := (f4795 m 3 _ gm rfl)
      rw [show H4790 0 ((i + 1).toNat) = H 0 ((i + 1).toNat) by omega]
      have h4814 : RB T H4790 m e8 d8 := (RB_fr hW gm f4795 rfl hrb8)
      have h4815 : KNN T H4790 m e8 d8 := (KNN_fr hW gm f4795 rfl hknn8)
      refine wl_of hX hb cL_1309 (xc_V (pc' := 1312) (r := m) (as := [vI (H 0 ((i + 1).toNat)), vI 0]) (st := []) (lm_11_170) rfl rfl (Nat.le_of_ble_eq_true rfl) w4794 gm sh_42 (by decide) rfl (by decide) (u_279 (e := e8) (d := d8) w4794 gm ⟨by omega, by omega⟩ ⟨by decide, by decide⟩ (by omega) (by assumption) (by assumption) (by assumption) (by assumption) h4814 h4815) (fun R4816 T4817 H4818 p4819 => ?_))
      obtain ⟨e4820, w4822, f4823, z4824, e4821, b4825, p4826⟩ := p4819
      subst e4820
      subst e4821
      obtain ⟨a4827, a4828⟩ := p4826
      show WL _ _ _ _ 1312 [(4, vI i), (3, .ref o), (2, .ref m), (1, .ref x), (0, .ref 0)] [vI z4824] _ H4818
      refine wl_of hX hb cL_1312 (rw_pop (pc' := 1313) rfl rfl ?_)
      refine wl_of hX hb cL_1313 (rw_goto (p1 := 1653) (by decide) ?_)
      have k4829 : H4818 x 9 = H4790 x 9 := (f4823 x 9 _ gx rfl)
      have k4830 : H4818 m 6 = H4790 m 6 := (f4823 m 6 _ gm rfl)
      have k4831 : H4818 x 11 = H4790 x 11 := (f4823 x 11 _ gx rfl)
      have k4832 : H4818 m 13 = H4790 m 13 := (f4823 m 13 _ gm rfl)
      have k4833 : H4818 x 8 = H4790 x 8 := (f4823 x 8 _ gx rfl)
      have k4834 : H4818 m 3 = H4790 m 3 := (f4823 m 3 _ gm rfl)
      have k4835 : H4818 x 0 = H x 0 := ((f4823 x 0 _ gx rfl).trans (f4795 x 0 _ gx rfl))
      have q4836 : H4818 x 0 = (tc : Int) := k4835.trans e0
      have k4837 : H4818 m 5 = H m 5 := ((f4823 m 5 _ gm rfl).trans (f4795 m 5 _ gm rfl))
      have q4838 : H4818 m 5 = (tm : Int) := k4837.trans em
      have k4839 : H4818 x 6 = H x 6 := ((f4823 x 6 _ gx rfl).trans (f4795 x 6 _ gx rfl))
      have q4840 : H4818 x 6 = (cu : Int) := k4839.trans ecu
      have k4841 : H4818 x 7 = H x 7 := ((f4823 x 7 _ gx rfl).trans (f4795 x 7 _ gx rfl))
      have q4842 : H4818 x 7 = (dr : Int) := k4841.trans edr
      have h4843 : CEN T H4818 ce8 e8 d8 := (CEN_fr w4794 gce8 f4823 rfl p4798)
      have h4844 : TP T H4818 tc B := (TP_fr w4794 gtc f4823 rfl (TP_fr hW gtc f4795 rfl htc))
      have h4845 : TM T H4818 tm B := (TM_fr w4794 gtm f4823 rfl (TM_fr hW gtm f4795 rfl htm))
      have h4846 : DD T H4818 cu  := (DD_fr w4794 gcu f4823 rfl (DD_fr hW gcu f4795 rfl hcu))
      have h4847 : DD T H4818 dr  := (DD_fr w4794 gdr f4823 rfl (DD_fr hW gdr f4795 rfl hdr))
      have h4848 : DE T H4818 cu  := (DE_fr w4794 gcu f4823 rfl (DE_fr hW gcu f4795 rfl hdec))
      have h4849 : DE T H4818 dr  := (DE_fr w4794 gdr f4823 rfl (DE_fr hW gdr f4795 rfl hded))
      have h4850 : SP T H4818 x C8 := (SP_fr w4794 gx f4823 rfl (SP_fr hW gx f4795 rfl hsp))
      have h4851 : CU T H4818 cu e8 d8 n8 := (CU_fr w4794 gcu f4823 rfl (CU_fr hW gcu f4795 rfl hcu8))
      have h4852 : CY T H4818 cu (d8 0 3) g8 (H cu 17) := (CY_fr w4794 gcu f4823 rfl (CY_fr hW gcu f4795 rfl h4783))
      have k4853 : H4818 x 3 = H x 3 := ((f4823 x 3 _ gx rfl).trans (f4795 x 3 _ gx rfl))
      have q4854 : H4818 x 3 = (ce8 : Int) := k4853.trans ece8
      have h4855 : HDR T H4818 ce8  := (HDR_fr w4794 gce8 f4823 rfl (HDR_fr hW gce8 f4795 rfl hhdr8))
      have h4856 : RY T H4818 m (d8 0 3) g8 (H m 32) := (RY_fr w4794 gm f4823 rfl (RY_fr hW gm f4795 rfl h4784))
      have h4857 : RB T H4818 m e8 d8 := (RB_fr w4794 gm f4823 rfl h4814)
      exact WL.loc hX (by simp) (next T H4818 ⟨⟨w4822, g0, gx, gm, go, by omega, by omega⟩, ⟨_, tc, tm, cu, dr, _, _, _, _, _, ce8, q4836, gtc, h4844, q4838, gtm, h4845, q4840, gcu, q4842, gdr, h4846, h4847, h4848, h4849, h4850, hC1, hC2, h4851, h4857, (h4852).1, (h4856).1, hE, hZ, (by omega), (by assumption), (by omega), (by first | assumption | exact SG_0), q4854, gce8, h4843, h4855, a4828, gm⟩, by omega, by omega⟩ (by omega) (by omega))
    · exfalso
      omega
  · refine wl_of hX hb cL_1279 (rw_iconst (pc' := 1280) rfl ?_)
    refine wl_of hX hb cL_1280 (rw_goto (p1 := 1284) (by decide) ?_)
    obtain ⟨B, tc, tm, cu, dr, C8, e8, d8, n8, g8, ce8, e0, gtc, htc, em, gtm, htm, ecu, gcu, edr, gdr, hcu, hdr, hdec, hded, hsp, hC1, hC2, hcu8, hrb8, hcg8, hmn8, hE, hZ, hn8, hXA, hV8, hSG, ece8, gce8, hcen8, hhdr8, hknn8, -⟩ := hXI
    have hN3 := RB_n3 hrb8
    have hE13 : ∀ h : Nat, h < 24 → 0 ≤ e8 13 h ∧ e8 13 h ≤ 100 := fun k hk => by
      obtain ⟨s, h1, h2, h3⟩ := hcu8.1.2.2.1
      exact ⟨(h3 k hk).1, (h3 k hk).2.1⟩
    have hXW := hXA.1
    have hXN := hXA.2
    have hE0 : e8 0 3 = d8 0 3 ∧ e8 0 0 = d8 0 0 := by
      have h := hE 0 (by decide)
      exact ⟨congrFun h 3, congrFun h 0⟩
    have u4858 := CU_k hcu8
    have h4859 : CY T H cu (d8 0 3) g8 (H cu 17) := ⟨hcg8, rfl⟩
    have h4860 : RY T H m (d8 0 3) g8 (H m 32) := ⟨hmn8, rfl⟩
    obtain ⟨t9, ht9⟩ : ∃ t : Int, t = H x 9 := ⟨_, rfl⟩
    obtain ⟨y9, hy9⟩ : ∃ y : Int, y = 1 := ⟨_, rfl⟩
    obtain ⟨r4861, q4862, g4863⟩ := hW.ref gx (t' := 6) (n := 13) (j := 2) (p := 0) (q := 0) rfl (by decide) rfl
    refine wl_of hX hb cL_1284 (xc_V (pc' := 1287) (r := x) (as := [vI (H 0 ((i + 1).toNat)), vI 1]) (st := []) (lm_11_167) rfl rfl (Nat.le_of_ble_eq_true rfl) hW gx sh_1 (by decide) rfl (by decide) (u_146 (e := e8) (d := d8) (n := n8) hW gx ⟨by omega, by omega⟩ ⟨by decide, by decide⟩ ecu gcu q4862 g4863 ece8 gce8 (by assumption) (by assumption) (by omega) (by omega) (by omega) (by omega) hcu8 hcen8 hhdr8) (fun R4864 T4865 H4866 p4867 => ?_))
    obtain ⟨e4868, w4870, f4871, z4872, e4869, b4873, p4874⟩ := p4867
    subst e4868
    subst e4869
    show WL _ _ _ _ 1287 [(4, vI i), (3, .ref o), (2, .ref m), (1, .ref x), (0, .ref 0)] [vI z4872] _ H4866
    refine wl_of hX hb cL_1287 (rw_pop (pc' := 1288) rfl rfl ?_)
    refine wl_of hX hb cL_1288 (rw_aload_n (pc' := 1289) (v := .ref m) rfl rfl rfl ?_)
    refine wl_of hX hb cL_1289 (rw_aload_n (pc' := 1290) (v := .ref 0) rfl rfl rfl ?_)
    refine wl_of hX hb cL_1290 (rw_iload (pc' := 1292) (z := i) rfl rfl ?_)
    refine wl_of hX hb cL_1292 (rw_iconst (pc' := 1293) rfl ?_)
    refine wl_of hX hb cL_1293 (rw_iadd (pc' := 1294) rfl ?_)
    have k4878 : H4866 0 ((i + 1).toNat) = H 0 ((i + 1).toNat) := (f4871 0 ((i + 1).toNat) _ g0 (wmem_s rfl))
    refine wl_of hX hb cL_1294 (xa_I (so := 0) (pc' := 1295) (a := 0) w4870 g0 (wsh_s _) (by omega) (wty_s _ _) (by omega) (by omega) rfl (fun b4876 b4877 => ?_))
    refine wl_of hX hb cL_1295 (rw_aload_n (pc' := 1296) (v := .ref 0) rfl rfl rfl ?_)
    refine wl_of hX hb cL_1296 (rw_iload (pc' := 1298) (z := i) rfl rfl ?_)
    refine wl_of hX hb cL_1298 (rw_iconst (pc' := 1299) rfl ?_)
    refine wl_of hX hb cL_1299 (rw_iadd (pc' := 1300) rfl ?_)
    have k4881 : H4866 0 ((i + 2).toNat) = H 0 ((i + 2).toNat) := (f4871 0 ((i + 2).toNat) _ g0 (wmem_s rfl))
    refine wl_of hX hb cL_1300 (xa_I (so := 0) (pc' := 1301) (a := 0) w4870 g0 (wsh_s _) (by omega) (wty_s _ _) (by omega) (by omega) rfl (fun b4879 b4880 => ?_))
    refine wl_of hX hb cL_1301 (rw_if_eq (p1 := 1308) (p2 := 1304) (by decide) rfl ⟨by omega, by omega⟩ (fun c4882 => ?_) (fun c4882 => ?_))
    · refine wl_of hX hb cL_1308 (rw_iconst (pc' := 1309) rfl ?_)
      have k4883 : wKI H4866 m = wKI H m := (wKI_fr hW gm f4871 rfl)
      have k4884 : H4866 x 9 = H x 9 := (f4871 x 9 _ gx rfl)
      have k4885 : H4866 m 6 = H m 6 := (f4871 m 6 _ gm rfl)
      have k4886 : H4866 x 11 = H x 11 := (f4871 x 11 _ gx rfl)
      have k4887 : H4866 m 13 = H m 13 := (f4871 m 13 _ gm rfl)
      have k4888 : H4866 x 8 = H x 8 := (f4871 x 8 _ gx rfl)
      have k4889 : H4866 m 3 = H m 3 := (f4871 m 3 _ gm rfl)
      rw [show H4866 0 ((i + 1).toNat) = H 0 ((i + 1).toNat) by omega]
      have h4890 : RB T H4866 m e8 d8 := (RB_fr hW gm f4871 rfl hrb8)
      have h4891 : KNN T H4866 m e8 d8 := (KNN_fr hW gm f4871 rfl hknn8)
      refine wl_of hX hb cL_1309 (xc_V (pc' := 1312) (r := m) (as := [vI (H 0 ((i + 1).toNat)), vI 0]) (st := []) (lm_11_170) rfl rfl (Nat.le_of_ble_eq_true rfl) w4870 gm sh_42 (by decide) rfl (by decide) (u_279 (e := e8) (d := d8) w4870 gm ⟨by omega, by omega⟩ ⟨by decide, by decide⟩ (by omega) (by assumption) (by assumption) (by assumption) (by assumption) h4890 h4891) (fun R4892 T4893 H4894 p4895 => ?_))
      obtain ⟨e4896, w4898, f4899, z4900, e4897, b4901, p4902⟩ := p4895
      subst e4896
      subst e4897
      obtain ⟨a4903, a4904⟩ := p4902
      show WL _ _ _ _ 1312 [(4, vI i), (3, .ref o), (2, .ref m), (1, .ref x), (0, .ref 0)] [vI z4900] _ H4894
      refine wl_of hX hb cL_1312 (rw_pop (pc' := 1313) rfl rfl ?_)
      refine wl_of hX hb cL_1313 (rw_goto (p1 := 1653) (by decide) ?_)
      have k4905 : H4894 x 9 = H4866 x 9 := (f4899 x 9 _ gx rfl)
      have k4906 : H4894 m 6 = H4866 m 6 := (f4899 m 6 _ gm rfl)
      have k4907 : H4894 x 11 = H4866 x 11 := (f4899 x 11 _ gx rfl)
      have k4908 : H4894 m 13 = H4866 m 13 := (f4899 m 13 _ gm rfl)
      have k4909 : H4894 x 8 = H4866 x 8 := (f4899 x 8 _ gx rfl)
      have k4910 : H4894 m 3 = H4866 m 3 := (f4899 m 3 _ gm rfl)
      have k4911 : H4894 x 0 = H x 0 := ((f4899 x 0 _ gx rfl).trans (f4871 x 0 _ gx rfl))
      have q4912 : H4894 x 0 = (tc : Int) := k4911.trans e0
      have k4913 : H4894 m 5 = H m 5 := ((f4899 m 5 _ gm rfl).trans (f4871 m 5 _ gm rfl))
      have q4914 : H4894 m 5 = (tm : Int) := k4913.trans em
      have k4915 : H4894 x 6 = H x 6 := ((f4899 x 6 _ gx rfl).trans (f4871 x 6 _ gx rfl))
      have q4916 : H4894 x 6 = (cu : Int) := k4915.trans ecu
      have k4917 : H4894 x 7 = H x 7 := ((f4899 x 7 _ gx rfl).trans (f4871 x 7 _ gx rfl))
      have q4918 : H4894 x 7 = (dr : Int) := k4917.trans edr
      have h4919 : CEN T H4894 ce8 e8 d8 := (CEN_fr w4870 gce8 f4899 rfl p4874)
      have h4920 : TP T H4894 tc B := (TP_fr w4870 gtc f4899 rfl (TP_fr hW gtc f4871 rfl htc))
      have h4921 : TM T H4894 tm B := (TM_fr w4870 gtm f4899 rfl (TM_fr hW gtm f4871 rfl htm))
      have h4922 : DD T H4894 cu  := (DD_fr w4870 gcu f4899 rfl (DD_fr hW gcu f4871 rfl hcu))
      have h4923 : DD T H4894 dr  := (DD_fr w4870 gdr f4899 rfl (DD_fr hW gdr f4871 rfl hdr))
      have h4924 : DE T H4894 cu  := (DE_fr w4870 gcu f4899 rfl (DE_fr hW gcu f4871 rfl hdec))
      have h4925 : DE T H4894 dr  := (DE_fr w4870 gdr f4899 rfl (DE_fr hW gdr f4871 rfl hded))
      have h4926 : SP T H4894 x C8 := (SP_fr w4870 gx f4899 rfl (SP_fr hW gx f4871 rfl hsp))
      have h4927 : CU T H4894 cu e8 d8 n8 := (CU_fr w4870 gcu f4899 rfl (CU_fr hW gcu f4871 rfl hcu8))
      have h4928 : CY T H4894 cu (d8 0 3) g8 (H cu 17) := (CY_fr w4870 gcu f4899 rfl (CY_fr hW gcu f4871 rfl h4859))
      have k4929 : H4894 x 3 = H x 3 := ((f4899 x 3 _ gx rfl).trans (f4871 x 3 _ gx rfl))
      have q4930 : H4894 x 3 = (ce8 : Int) := k4929.trans ece8
      have h4931 : HDR T H4894 ce8  := (HDR_fr w4870 gce8 f4899 rfl (HDR_fr hW gce8 f4871 rfl hhdr8))
      have h4932 : RY T H4894 m (d8 0 3) g8 (H m 32) := (RY_fr w4870 gm f4899 rfl (RY_fr hW gm f4871 rfl h4860))
      have h4933 : RB T H4894 m e8 d8 := (RB_fr w4870 gm f4899 rfl h4890)
      exact WL.loc hX (by simp) (next T H4894 ⟨⟨w4898, g0, gx, gm, go, by omega, by omega⟩, ⟨_, tc, tm, cu, dr, _, _, _, _, _, ce8, q4912, gtc, h4920, q4914, gtm, h4921, q4916, gcu, q4918, gdr, h4922, h4923, h4924, h4925, h4926, hC1, hC2, h4927, h4933, (h4928).1, (h4932).1, hE, hZ, (by omega), (by assumption), (by omega), (by first | assumption | exact SG_0), q4930, gce8, h4919, h4931, a4904, gm⟩, by omega, by omega⟩ (by omega) (by omega))
    · refine wl_of hX hb cL_1304 (rw_iconst (pc' := 1305) rfl ?_)
      refine wl_of hX hb cL_1305 (rw_goto (p1 := 1309) (by decide) ?_)
      have k4934 : wKI H4866 m = wKI H m := (wKI_fr hW gm f4871 rfl)
      have k4935 : H4866 x 9 = H x 9 := (f4871 x 9 _ gx rfl)
      have k4936 : H4866 m 6 = H m 6 := (f4871 m 6 _ gm rfl)
      have k4937 : H4866 x 11 = H x 11 := (f4871 x 11 _ gx rfl)
      have k4938 : H4866 m 13 = H m 13 := (f4871 m 13 _ gm rfl)
      have k4939 : H4866 x 8 = H x 8 := (f4871 x 8 _ gx rfl)
      have k4940 : H4866 m 3 = H m 3 := (f4871 m 3 _ gm rfl)
      rw [show H4866 0 ((i + 1).toNat) = H 0 ((i + 1).toNat) by omega]
      have h4941 : RB T H4866 m e8 d8 := (RB_fr hW gm f4871 rfl hrb8)
      have h4942 : KNN T H4866 m e8 d8 := (KNN_fr hW gm f4871 rfl hknn8)
      refine wl_of hX hb cL_1309 (xc_V (pc' := 1312) (r := m) (as := [vI (H 0 ((i + 1).toNat)), vI 1]) (st := []) (lm_11_170) rfl rfl (Nat.le_of_ble_eq_true rfl) w4870 gm sh_42 (by decide) rfl (by decide) (u_279 (e := e8) (d := d8) w4870 gm ⟨by omega, by omega⟩ ⟨by decide, by decide⟩ (by omega) (by assumption) (by assumption) (by assumption) (by assumption) h4941 h4942) (fun R4943 T4944 H4945 p4946 => ?_))
      obtain ⟨e4947, w4949, f4950, z4951, e4948, b4952, p4953⟩ := p4946
      subst e4947
      subst e4948
      obtain ⟨a4954, a4955⟩ := p4953
      show WL _ _ _ _ 1312 [(4, vI i), (3, .ref o), (2, .ref m), (1, .ref x), (0, .ref 0)] [vI z4951] _ H4945
      refine wl_of hX hb cL_1312 (rw_pop (pc' := 1313) rfl rfl ?_)
      refine wl_of hX hb cL_1313 (rw_goto (p1 := 1653) (by decide) ?_)
      have k4956 : H4945 x 9 = H4866 x 9 := (f4950 x 9 _ gx rfl)
      have k4957 : H4945 m 6 = H4866 m 6 := (f4950 m 6 _ gm rfl)
      have k4958 : H4945 x 11 = H4866 x 11 := (f4950 x 11 _ gx rfl)
      have k4959 : H4945 m 13 = H4866 m 13 := (f4950 m 13 _ gm rfl)
      have k4960 : H4945 x 8 = H4866 x 8 := (f4950 x 8 _ gx rfl)
      have k4961 : H4945 m 3 = H4866 m 3 := (f4950 m 3 _ gm rfl)
      have k4962 : H4945 x 0 = H x 0 := ((f4950 x 0 _ gx rfl).trans (f4871 x 0 _ gx rfl))
      have q4963 : H4945 x 0 = (tc : Int) := k4962.trans e0
      have k4964 : H4945 m 5 = H m 5 := ((f4950 m 5 _ gm rfl).trans (f4871 m 5 _ gm rfl))
      have q4965 : H4945 m 5 = (tm : Int) := k4964.trans em
      have k4966 : H4945 x 6 = H x 6 := ((f4950 x 6 _ gx rfl).trans (f4871 x 6 _ gx rfl))
      have q4967 : H4945 x 6 = (cu : Int) := k4966.trans ecu
      have k4968 : H4945 x 7 = H x 7 := ((f4950 x 7 _ gx rfl).trans (f4871 x 7 _ gx rfl))
      have q4969 : H4945 x 7 = (dr : Int) := k4968.trans edr
      have h4970 : CEN T H4945 ce8 e8 d8 := (CEN_fr w4870 gce8 f4950 rfl p4874)
      have h4971 : TP T H4945 tc B := (TP_fr w4870 gtc f4950 rfl (TP_fr hW gtc f4871 rfl htc))
      have h4972 : TM T H4945 tm B := (TM_fr w4870 gtm f4950 rfl (TM_fr hW gtm f4871 rfl htm))
      have h4973 : DD T H4945 cu  := (DD_fr w4870 gcu f4950 rfl (DD_fr hW gcu f4871 rfl hcu))
      have h4974 : DD T H4945 dr  := (DD_fr w4870 gdr f4950 rfl (DD_fr hW gdr f4871 rfl hdr))
      have h4975 : DE T H4945 cu  := (DE_fr w4870 gcu f4950 rfl (DE_fr hW gcu f4871 rfl hdec))
      have h4976 : DE T H4945 dr  := (DE_fr w4870 gdr f4950 rfl (DE_fr hW gdr f4871 rfl hded))
      have h4977 : SP T H4945 x C8 := (SP_fr w4870 gx f4950 rfl (SP_fr hW gx f4871 rfl hsp))
      have h4978 : CU T H4945 cu e8 d8 n8 := (CU_fr w4870 gcu f4950 rfl (CU_fr hW gcu f4871 rfl hcu8))
      have h4979 : CY T H4945 cu (d8 0 3) g8 (H cu 17) := (CY_fr w4870 gcu f4950 rfl (CY_fr hW gcu f4871 rfl h4859))
      have k4980 : H4945 x 3 = H x 3 := ((f4950 x 3 _ gx rfl).trans (f4871 x 3 _ gx rfl))
      have q4981 : H4945 x 3 = (ce8 : Int) := k4980.trans ece8
      have h4982 : HDR T H4945 ce8  := (HDR_fr w4870 gce8 f4950 rfl (HDR_fr hW gce8 f4871 rfl hhdr8))
      have h4983 : RY T H4945 m (d8 0 3) g8 (H m 32) := (RY_fr w4870 gm f4950 rfl (RY_fr hW gm f4871 rfl h4860))
      have h4984 : RB T H4945 m e8 d8 := (RB_fr w4870 gm f4950 rfl h4941)
      exact WL.loc hX (by simp) (next T H4945 ⟨⟨w4949, g0, gx, gm, go, by omega, by omega⟩, ⟨_, tc, tm, cu, dr, _, _, _, _, _, ce8, q4963, gtc, h4971, q4965, gtm, h4972, q4967, gcu, q4969, gdr, h4973, h4974, h4975, h4976, h4977, hC1, hC2, h4978, h4984, (h4979).1, (h4983).1, hE, hZ, (by omega), (by assumption), (by omega), (by first | assumption | exact SG_0), q4981, gce8, h4970, h4982, a4955, gm⟩, by omega, by omega⟩ (by omega) (by omega))
