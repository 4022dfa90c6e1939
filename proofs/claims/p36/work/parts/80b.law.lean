/-! THE LAW, GONE ON WITH (own work) -/
set_option maxHeartbeats 4000000 in
theorem wl_c7 {kt : Nat → Option mc_E} {CB SB : Nat} {X : mc_S → Prop} {T : wq_T} {H : wq_H} {Len x m o : Nat} {i : Int} (hX : wlX kt CB SB X) (hb : T.2.1 ≤ CB ∧ T.2.2.1 ≤ SB) (hI : wlJ Len x m o T H) (hL : Len ≤ 3072) (hi : 0 ≤ i ∧ i + 6 ≤ Len) (hb2 : T.2.1 + 20 ≤ CB ∧ T.2.2.1 + 500 ≤ SB)  (next : ∀ T' H', wlJ Len x m o T' H' → T'.2.1 ≤ T.2.1 + 20 → T'.2.2.1 ≤ T.2.2.1 + 500 → WL kt CB SB X 1653 (wlL i x m o) [] T' H') : WL kt CB SB X 503 (wlL i x m o) [] T H := by
  obtain ⟨⟨hW, g0, gx, gm, go, hK, hr⟩, hXI, hY1, hY2⟩ := hI
  refine wl_of hX hb cL_503 (rw_aload_n (pc' := 504) (v := .ref x) rfl rfl rfl ?_)
  refine wl_of hX hb cL_504 (xc_V (pc' := 507) (r := x) (as := []) (st := []) (lm_11_50) rfl rfl (Nat.le_of_ble_eq_true rfl) hW gx sh_1 (by decide) rfl (by decide) (s_61 hW gx) (fun R2188 T2189 H2190 p2191 => ?_))
  obtain ⟨e2192, w2194, f2195, z2196, e2193, b2197⟩ := p2191
  subst e2192
  subst e2193
  show WL _ _ _ _ 507 [(4, vI i), (3, .ref o), (2, .ref m), (1, .ref x), (0, .ref 0)] [vL z2196] _ H2190
  refine wl_of hX hb cL_507 (rw_pop2 (pc' := 508) rfl rfl ?_)
  refine wl_of hX hb cL_508 (rw_aload_n (pc' := 509) (v := .ref m) rfl rfl rfl ?_)
  have k2198 : wKI H2190 m = wKI H m := (wKI_fr hW gm f2195 rfl)
  have k2199 : H2190 x 9 = H x 9 := (f2195 x 9 _ gx rfl)
  have k2200 : H2190 m 6 = H m 6 := (f2195 m 6 _ gm rfl)
  have k2201 : H2190 x 11 = H x 11 := (f2195 x 11 _ gx rfl)
  have k2202 : H2190 m 13 = H m 13 := (f2195 m 13 _ gm rfl)
  have k2203 : H2190 x 8 = H x 8 := (f2195 x 8 _ gx rfl)
  have k2204 : H2190 m 3 = H m 3 := (f2195 m 3 _ gm rfl)
  refine wl_of hX hb cL_509 (xc_V (pc' := 512) (r := m) (as := []) (st := []) (lm_11_54) rfl rfl (Nat.le_of_ble_eq_true rfl) w2194 gm sh_42 (by decide) rfl (by decide) (s_219 w2194 gm (by omega)) (fun R2205 T2206 H2207 p2208 => ?_))
  obtain ⟨e2209, w2211, f2212, z2214, e2210, b2215, p2213⟩ := p2208
  subst e2209
  subst e2210
  show WL _ _ _ _ 512 [(4, vI i), (3, .ref o), (2, .ref m), (1, .ref x), (0, .ref 0)] [vL z2214] _ H2207
  refine wl_of hX hb cL_512 (rw_pop2 (pc' := 513) rfl rfl ?_)
  refine wl_of hX hb cL_513 (rw_goto (p1 := 1653) (by decide) ?_)
  have k2216 : H2207 x 9 = H2190 x 9 := (f2212 x 9 _ gx rfl)
  have k2217 : H2207 m 6 = H2190 m 6 := (f2212 m 6 _ gm rfl)
  have k2218 : H2207 x 11 = H2190 x 11 := (f2212 x 11 _ gx rfl)
  have k2219 : H2207 m 13 = H2190 m 13 := (f2212 m 13 _ gm rfl)
  have k2220 : H2207 x 8 = H2190 x 8 := (f2212 x 8 _ gx rfl)
  have k2221 : H2207 m 3 = H2190 m 3 := (f2212 m 3 _ gm rfl)
  have h2222 : XI T H2207 x m := (XI_fr w2194 gx f2212 rfl (XI_fr hW gx f2195 rfl hXI))
  exact WL.loc hX (by simp) (next T H2207 ⟨⟨w2211, g0, gx, gm, go, by omega, by omega⟩, h2222, by omega, by omega⟩ (by omega) (by omega))
set_option maxHeartbeats 4000000 in
theorem wl_c8 {kt : Nat → Option mc_E} {CB SB : Nat} {X : mc_S → Prop} {T : wq_T} {H : wq_H} {Len x m o : Nat} {i : Int} (hX : wlX kt CB SB X) (hb : T.2.1 ≤ CB ∧ T.2.2.1 ≤ SB) (hI : wlJ Len x m o T H) (hL : Len ≤ 3072) (hi : 0 ≤ i ∧ i + 6 ≤ Len) (hb2 : T.2.1 + 20 ≤ CB ∧ T.2.2.1 + 500 ≤ SB)  (next : ∀ T' H', wlJ Len x m o T' H' → T'.2.1 ≤ T.2.1 + 20 → T'.2.2.1 ≤ T.2.2.1 + 500 → WL kt CB SB X 1653 (wlL i x m o) [] T' H') : WL kt CB SB X 516 (wlL i x m o) [] T H := by
  obtain ⟨⟨hW, g0, gx, gm, go, hK, hr⟩, hXI, hY1, hY2⟩ := hI
  refine wl_of hX hb cL_516 (rw_aload_n (pc' := 517) (v := .ref x) rfl rfl rfl ?_)
  refine wl_of hX hb cL_517 (rw_aload_n (pc' := 518) (v := .ref 0) rfl rfl rfl ?_)
  refine wl_of hX hb cL_518 (rw_iload (pc' := 520) (z := i) rfl rfl ?_)
  refine wl_of hX hb cL_520 (rw_iconst (pc' := 521) rfl ?_)
  refine wl_of hX hb cL_521 (rw_iadd (pc' := 522) rfl ?_)
  refine wl_of hX hb cL_522 (xa_I (so := 0) (pc' := 523) (a := 0) hW g0 (wsh_s _) (by omega) (wty_s _ _) (by omega) (by omega) rfl (fun b2223 b2224 => ?_))
  refine wl_of hX hb cL_523 (rw_aload_n (pc' := 524) (v := .ref 0) rfl rfl rfl ?_)
  refine wl_of hX hb cL_524 (rw_iload (pc' := 526) (z := i) rfl rfl ?_)
  refine wl_of hX hb cL_526 (rw_iconst (pc' := 527) rfl ?_)
  refine wl_of hX hb cL_527 (rw_iadd (pc' := 528) rfl ?_)
  refine wl_of hX hb cL_528 (xa_I (so := 0) (pc' := 529) (a := 0) hW g0 (wsh_s _) (by omega) (wty_s _ _) (by omega) (by omega) rfl (fun b2225 b2226 => ?_))
  obtain ⟨B, tc, tm, cu, dr, C8, e8, d8, n8, g8, ce8, e0, gtc, htc, em, gtm, htm, ecu, gcu, edr, gdr, hcu, hdr, hdec, hded, hsp, hC1, hC2, hcu8, hrb8, hcg8, hmn8, hE, hZ, hn8, hXA, hV8, hSG, ece8, gce8, hcen8, hhdr8, hknn8, -⟩ := hXI
  have hN3 := RB_n3 hrb8
  have hE13 : ∀ h : Nat, h < 24 → 0 ≤ e8 13 h ∧ e8 13 h ≤ 100 := fun k hk => by
    obtain ⟨s, h1, h2, h3⟩ := hcu8.1.2.2.1
    exact ⟨(h3 k hk).1, (h3 k hk).2.1⟩
  have hXW := hXA.1
  have hXN := hXA.2
  have hE0 : e8 0 3 = d8 0 3 ∧ e8 0 0 = d8 0 0 := by
    have h := hE 0 (by decide)
    exact ⟨congrFun h 3, congrFun h 0⟩
  have u2227 := CU_k hcu8
  have h2228 : CY T H cu (d8 0 3) g8 (H cu 17) := ⟨hcg8, rfl⟩
  have h2229 : RY T H m (d8 0 3) g8 (H m 32) := ⟨hmn8, rfl⟩
  obtain ⟨t9, ht9⟩ : ∃ t : Int, t = H x 9 := ⟨_, rfl⟩
  obtain ⟨y9, hy9⟩ : ∃ y : Int, y = H 0 ((i + 2).toNat) := ⟨_, rfl⟩
  refine wl_of hX hb cL_529 (xc_V (pc' := 532) (r := x) (as := [vI (H 0 ((i + 1).toNat)), vI (H 0 ((i + 2).toNat))]) (st := []) (lm_11_55) rfl rfl (Nat.le_of_ble_eq_true rfl) hW gx sh_1 (by decide) rfl (by decide) (u_62 (e := e8) (d := d8) (n := n8) (nY := ((d8 0 3))) (gY := g8) (cY := ((H cu 17))) hW gx ⟨by omega, by omega⟩ ⟨by omega, by omega⟩ ecu gcu (by omega) (by omega) (by omega) (by assumption) hcu8 h2228 hcu) (fun R2230 T2231 H2232 p2233 => ?_))
  obtain ⟨e2234, w2236, f2237, z2238, e2235, b2239, p2240⟩ := p2233
  subst e2234
  subst e2235
  rcases p2240 with ⟨a2241, a2242, a2243, a2244⟩ | ⟨a2245, a2246, a2247⟩
  · show WL _ _ _ _ 532 [(4, vI i), (3, .ref o), (2, .ref m), (1, .ref x), (0, .ref 0)] [vI z2238] _ H2232
    refine wl_of hX hb cL_532 (rw_pop (pc' := 533) rfl rfl ?_)
    refine wl_of hX hb cL_533 (rw_aload_n (pc' := 534) (v := .ref m) rfl rfl rfl ?_)
    refine wl_of hX hb cL_534 (rw_aload_n (pc' := 535) (v := .ref 0) rfl rfl rfl ?_)
    refine wl_of hX hb cL_535 (rw_iload (pc' := 537) (z := i) rfl rfl ?_)
    refine wl_of hX hb cL_537 (rw_iconst (pc' := 538) rfl ?_)
    refine wl_of hX hb cL_538 (rw_iadd (pc' := 539) rfl ?_)
    have k2250 : H2232 0 ((i + 1).toNat) = H 0 ((i + 1).toNat) := (f2237 0 ((i + 1).toNat) _ g0 (wmem_s rfl))
    refine wl_of hX hb cL_539 (xa_I (so := 0) (pc' := 540) (a := 0) w2236 g0 (wsh_s _) (by omega) (wty_s _ _) (by omega) (by omega) rfl (fun b2248 b2249 => ?_))
    refine wl_of hX hb cL_540 (rw_aload_n (pc' := 541) (v := .ref 0) rfl rfl rfl ?_)
    refine wl_of hX hb cL_541 (rw_iload (pc' := 543) (z := i) rfl rfl ?_)
    refine wl_of hX hb cL_543 (rw_iconst (pc' := 544) rfl ?_)
    refine wl_of hX hb cL_544 (rw_iadd (pc' := 545) rfl ?_)
    have k2253 : H2232 0 ((i + 2).toNat) = H 0 ((i + 2).toNat) := (f2237 0 ((i + 2).toNat) _ g0 (wmem_s rfl))
    refine wl_of hX hb cL_545 (xa_I (so := 0) (pc' := 546) (a := 0) w2236 g0 (wsh_s _) (by omega) (wty_s _ _) (by omega) (by omega) rfl (fun b2251 b2252 => ?_))
    have k2254 : wKI H2232 m = wKI H m := (wKI_fr hW gm f2237 rfl)
    have k2255 : H2232 x 9 = H x 9 := (f2237 x 9 _ gx rfl)
    have k2256 : H2232 m 6 = H m 6 := (f2237 m 6 _ gm rfl)
    have k2257 : H2232 x 11 = H x 11 := (f2237 x 11 _ gx rfl)
    have k2258 : H2232 m 13 = H m 13 := (f2237 m 13 _ gm rfl)
    have k2259 : H2232 x 8 = H x 8 := (f2237 x 8 _ gx rfl)
    have k2260 : H2232 m 3 = H m 3 := (f2237 m 3 _ gm rfl)
    rw [show H2232 0 ((i + 2).toNat) = H 0 ((i + 2).toNat) by omega]
    rw [show H2232 0 ((i + 1).toNat) = H 0 ((i + 1).toNat) by omega]
    have h2261 : RB T H2232 m e8 d8 := (RB_fr hW gm f2237 rfl hrb8)
    have h2262 : RY T H2232 m (d8 0 3) g8 (H m 32) := (RY_fr hW gm f2237 rfl h2229)
    refine wl_of hX hb cL_546 (xc_V (pc' := 549) (r := m) (as := [vI (H 0 ((i + 1).toNat)), vI (H 0 ((i + 2).toNat))]) (st := []) (lm_11_59) rfl rfl (Nat.le_of_ble_eq_true rfl) w2236 gm sh_42 (by decide) rfl (by decide) (u_222 (e := e8) (d := d8) (nY := ((d8 0 3))) (gY := g8) (cY := ((H m 32))) w2236 gm ⟨by omega, by omega⟩ ⟨by omega, by omega⟩ (by omega) h2261 h2262) (fun R2263 T2264 H2265 p2266 => ?_))
    obtain ⟨e2267, w2269, f2270, z2271, e2268, b2272, p2273⟩ := p2266
    subst e2267
    subst e2268
    rcases p2273 with ⟨a2274, a2275, a2276⟩ | ⟨a2277, a2278, a2279⟩
    · show WL _ _ _ _ 549 [(4, vI i), (3, .ref o), (2, .ref m), (1, .ref x), (0, .ref 0)] [vI z2271] _ H2265
      refine wl_of hX hb cL_549 (rw_pop (pc' := 550) rfl rfl ?_)
      refine wl_of hX hb cL_550 (rw_goto (p1 := 1653) (by decide) ?_)
      have k2280 : wKI H2265 m = wKI H2232 m := (wKI_fr w2236 gm f2270 rfl)
      have k2281 : H2265 x 9 = H2232 x 9 := (f2270 x 9 _ gx rfl)
      have k2282 : H2265 m 6 = H2232 m 6 := (f2270 m 6 _ gm rfl)
      have k2283 : H2265 x 11 = H2232 x 11 := (f2270 x 11 _ gx rfl)
      have k2284 : H2265 m 13 = H2232 m 13 := (f2270 m 13 _ gm rfl)
      have k2285 : H2265 x 8 = H2232 x 8 := (f2270 x 8 _ gx rfl)
      have k2286 : H2265 m 3 = H2232 m 3 := (f2270 m 3 _ gm rfl)
      have k2287 : H2265 x 0 = H x 0 := ((f2270 x 0 _ gx rfl).trans (f2237 x 0 _ gx rfl))
      have q2288 : H2265 x 0 = (tc : Int) := k2287.trans e0
      have k2289 : H2265 m 5 = H m 5 := ((f2270 m 5 _ gm rfl).trans (f2237 m 5 _ gm rfl))
      have q2290 : H2265 m 5 = (tm : Int) := k2289.trans em
      have k2291 : H2265 x 6 = H x 6 := ((f2270 x 6 _ gx rfl).trans (f2237 x 6 _ gx rfl))
      have q2292 : H2265 x 6 = (cu : Int) := k2291.trans ecu
      have k2293 : H2265 x 7 = H x 7 := ((f2270 x 7 _ gx rfl).trans (f2237 x 7 _ gx rfl))
      have q2294 : H2265 x 7 = (dr : Int) := k2293.trans edr
      have h2295 : CEN T H2265 ce8 e8 d8 := (CEN_fr w2236 gce8 f2270 rfl (CEN_fr hW gce8 f2237 rfl hcen8))
      have h2296 : TP T H2265 tc B := (TP_fr w2236 gtc f2270 rfl (TP_fr hW gtc f2237 rfl htc))
      have h2297 : TM T H2265 tm B := (TM_fr w2236 gtm f2270 rfl (TM_fr hW gtm f2237 rfl htm))
      have h2298 : DD T H2265 cu  := (DD_fr w2236 gcu f2270 rfl (DD_fr hW gcu f2237 rfl hcu))
      have h2299 : DD T H2265 dr  := (DD_fr w2236 gdr f2270 rfl (DD_fr hW gdr f2237 rfl hdr))
      have h2300 : DE T H2265 cu  := (DE_fr w2236 gcu f2270 rfl (DE_fr hW gcu f2237 rfl hdec))
      have h2301 : DE T H2265 dr  := (DE_fr w2236 gdr f2270 rfl (DE_fr hW gdr f2237 rfl hded))
      have h2302 : SP T H2265 x C8 := (SP_fr w2236 gx f2270 rfl (SP_fr hW gx f2237 rfl hsp))
      have h2303 : CU T H2265 cu e8 d8 n8 := (CU_fr w2236 gcu f2270 rfl (CU_fr hW gcu f2237 rfl hcu8))
      have h2304 : CY T H2265 cu ((d8 0 3)) (xup g8 ((H 0 ((i + 1).toNat))).toNat (H 0 ((i + 2).toNat))) ((H cu 17)) := (CY_fr w2236 gcu f2270 rfl a2244)
      have k2305 : H2265 x 3 = H x 3 := ((f2270 x 3 _ gx rfl).trans (f2237 x 3 _ gx rfl))
      have q2306 : H2265 x 3 = (ce8 : Int) := k2305.trans ece8
      have h2307 : HDR T H2265 ce8  := (HDR_fr w2236 gce8 f2270 rfl (HDR_fr hW gce8 f2237 rfl hhdr8))
      have h2308 : KNN T H2265 m e8 d8 := (KNN_fr w2236 gm f2270 rfl (KNN_fr hW gm f2237 rfl hknn8))
      have h2309 : RB T H2265 m e8 d8 := (RB_fr w2236 gm f2270 rfl h2261)
      exact WL.loc hX (by simp) (next T H2265 ⟨⟨w2269, g0, gx, gm, go, by omega, by omega⟩, ⟨_, tc, tm, cu, dr, _, _, _, _, _, ce8, q2288, gtc, h2296, q2290, gtm, h2297, q2292, gcu, q2294, gdr, h2298, h2299, h2300, h2301, h2302, hC1, hC2, h2303, h2309, (h2304).1, (a2276).1, hE, hZ, (by omega), (by assumption), (by omega), (by first | assumption | exact SG_0), q2306, gce8, h2295, h2307, h2308, gm⟩, by omega, by omega⟩ (by omega) (by omega))
    · show WL _ _ _ _ 549 [(4, vI i), (3, .ref o), (2, .ref m), (1, .ref x), (0, .ref 0)] [vI z2271] _ H2265
      refine wl_of hX hb cL_549 (rw_pop (pc' := 550) rfl rfl ?_)
      refine wl_of hX hb cL_550 (rw_goto (p1 := 1653) (by decide) ?_)
      have k2310 : wKI H2265 m = wKI H2232 m := (wKI_fr w2236 gm f2270 rfl)
      have k2311 : H2265 x 9 = H2232 x 9 := (f2270 x 9 _ gx rfl)
      have k2312 : H2265 m 6 = H2232 m 6 := (f2270 m 6 _ gm rfl)
      have k2313 : H2265 x 11 = H2232 x 11 := (f2270 x 11 _ gx rfl)
      have k2314 : H2265 m 13 = H2232 m 13 := (f2270 m 13 _ gm rfl)
      have k2315 : H2265 x 8 = H2232 x 8 := (f2270 x 8 _ gx rfl)
      have k2316 : H2265 m 3 = H2232 m 3 := (f2270 m 3 _ gm rfl)
      have k2317 : H2265 x 0 = H x 0 := ((f2270 x 0 _ gx rfl).trans (f2237 x 0 _ gx rfl))
      have q2318 : H2265 x 0 = (tc : Int) := k2317.trans e0
      have k2319 : H2265 m 5 = H m 5 := ((f2270 m 5 _ gm rfl).trans (f2237 m 5 _ gm rfl))
      have q2320 : H2265 m 5 = (tm : Int) := k2319.trans em
      have k2321 : H2265 x 6 = H x 6 := ((f2270 x 6 _ gx rfl).trans (f2237 x 6 _ gx rfl))
      have q2322 : H2265 x 6 = (cu : Int) := k2321.trans ecu
      have k2323 : H2265 x 7 = H x 7 := ((f2270 x 7 _ gx rfl).trans (f2237 x 7 _ gx rfl))
      have q2324 : H2265 x 7 = (dr : Int) := k2323.trans edr
      have h2325 : CEN T H2265 ce8 e8 d8 := (CEN_fr w2236 gce8 f2270 rfl (CEN_fr hW gce8 f2237 rfl hcen8))
      have h2326 : TP T H2265 tc B := (TP_fr w2236 gtc f2270 rfl (TP_fr hW gtc f2237 rfl htc))
      have h2327 : TM T H2265 tm B := (TM_fr w2236 gtm f2270 rfl (TM_fr hW gtm f2237 rfl htm))
      have h2328 : DD T H2265 cu  := (DD_fr w2236 gcu f2270 rfl (DD_fr hW gcu f2237 rfl hcu))
      have h2329 : DD T H2265 dr  := (DD_fr w2236 gdr f2270 rfl (DD_fr hW gdr f2237 rfl hdr))
      have h2330 : DE T H2265 cu  := (DE_fr w2236 gcu f2270 rfl (DE_fr hW gcu f2237 rfl hdec))
      have h2331 : DE T H2265 dr  := (DE_fr w2236 gdr f2270 rfl (DE_fr hW gdr f2237 rfl hded))
      have h2332 : SP T H2265 x C8 := (SP_fr w2236 gx f2270 rfl (SP_fr hW gx f2237 rfl hsp))
      have h2333 : CU T H2265 cu e8 d8 n8 := (CU_fr w2236 gcu f2270 rfl (CU_fr hW gcu f2237 rfl hcu8))
      have h2334 : CY T H2265 cu ((d8 0 3)) (xup g8 ((H 0 ((i + 1).toNat))).toNat (H 0 ((i + 2).toNat))) ((H cu 17)) := (CY_fr w2236 gcu f2270 rfl a2244)
      have k2335 : H2265 x 3 = H x 3 := ((f2270 x 3 _ gx rfl).trans (f2237 x 3 _ gx rfl))
      have q2336 : H2265 x 3 = (ce8 : Int) := k2335.trans ece8
      have h2337 : HDR T H2265 ce8  := (HDR_fr w2236 gce8 f2270 rfl (HDR_fr hW gce8 f2237 rfl hhdr8))
      have h2338 : KNN T H2265 m e8 d8 := (KNN_fr w2236 gm f2270 rfl (KNN_fr hW gm f2237 rfl hknn8))
      exfalso
      omega
  · show WL _ _ _ _ 532 [(4, vI i), (3, .ref o), (2, .ref m), (1, .ref x), (0, .ref 0)] [vI z2238] _ H2232
    refine wl_of hX hb cL_532 (rw_pop (pc' := 533) rfl rfl ?_)
    refine wl_of hX hb cL_533 (rw_aload_n (pc' := 534) (v := .ref m) rfl rfl rfl ?_)
    refine wl_of hX hb cL_534 (rw_aload_n (pc' := 535) (v := .ref 0) rfl rfl rfl ?_)
    refine wl_of hX hb cL_535 (rw_iload (pc' := 537) (z := i) rfl rfl ?_)
    refine wl_of hX hb cL_537 (rw_iconst (pc' := 538) rfl ?_)
    refine wl_of hX hb cL_538 (rw_iadd (pc' := 539) rfl ?_)
    have k2341 : H2232 0 ((i + 1).toNat) = H 0 ((i + 1).toNat) := (f2237 0 ((i + 1).toNat) _ g0 (wmem_s rfl))
    refine wl_of hX hb cL_539 (xa_I (so := 0) (pc' := 540) (a := 0) w2236 g0 (wsh_s _) (by omega) (wty_s _ _) (by omega) (by omega) rfl (fun b2339 b2340 => ?_))
    refine wl_of hX hb cL_540 (rw_aload_n (pc' := 541) (v := .ref 0) rfl rfl rfl ?_)
    refine wl_of hX hb cL_541 (rw_iload (pc' := 543) (z := i) rfl rfl ?_)
    refine wl_of hX hb cL_543 (rw_iconst (pc' := 544) rfl ?_)
    refine wl_of hX hb cL_544 (rw_iadd (pc' := 545) rfl ?_)
    have k2344 : H2232 0 ((i + 2).toNat) = H 0 ((i + 2).toNat) := (f2237 0 ((i + 2).toNat) _ g0 (wmem_s rfl))
    refine wl_of hX hb cL_545 (xa_I (so := 0) (pc' := 546) (a := 0) w2236 g0 (wsh_s _) (by omega) (wty_s _ _) (by omega) (by omega) rfl (fun b2342 b2343 => ?_))
    have k2345 : wKI H2232 m = wKI H m := (wKI_fr hW gm f2237 rfl)
    have k2346 : H2232 x 9 = H x 9 := (f2237 x 9 _ gx rfl)
    have k2347 : H2232 m 6 = H m 6 := (f2237 m 6 _ gm rfl)
    have k2348 : H2232 x 11 = H x 11 := (f2237 x 11 _ gx rfl)
    have k2349 : H2232 m 13 = H m 13 := (f2237 m 13 _ gm rfl)
    have k2350 : H2232 x 8 = H x 8 := (f2237 x 8 _ gx rfl)
    have k2351 : H2232 m 3 = H m 3 := (f2237 m 3 _ gm rfl)
    rw [show H2232 0 ((i + 2).toNat) = H 0 ((i + 2).toNat) by omega]
    rw [show H2232 0 ((i + 1).toNat) = H 0 ((i + 1).toNat) by omega]
    have h2352 : RB T H2232 m e8 d8 := (RB_fr hW gm f2237 rfl hrb8)
    have h2353 : RY T H2232 m (d8 0 3) g8 (H m 32) := (RY_fr hW gm f2237 rfl h2229)
    refine wl_of hX hb cL_546 (xc_V (pc' := 549) (r := m) (as := [vI (H 0 ((i + 1).toNat)), vI (H 0 ((i + 2).toNat))]) (st := []) (lm_11_59) rfl rfl (Nat.le_of_ble_eq_true rfl) w2236 gm sh_42 (by decide) rfl (by decide) (u_222 (e := e8) (d := d8) (nY := ((d8 0 3))) (gY := g8) (cY := ((H m 32))) w2236 gm ⟨by omega, by omega⟩ ⟨by omega, by omega⟩ (by omega) h2352 h2353) (fun R2354 T2355 H2356 p2357 => ?_))
    obtain ⟨e2358, w2360, f2361, z2362, e2359, b2363, p2364⟩ := p2357
    subst e2358
    subst e2359
    rcases p2364 with ⟨a2365, a2366, a2367⟩ | ⟨a2368, a2369, a2370⟩
    · show WL _ _ _ _ 549 [(4, vI i), (3, .ref o), (2, .ref m), (1, .ref x), (0, .ref 0)] [vI z2362] _ H2356
      refine wl_of hX hb cL_549 (rw_pop (pc' := 550) rfl rfl ?_)
      refine wl_of hX hb cL_550 (rw_goto (p1 := 1653) (by decide) ?_)
      have k2371 : wKI H2356 m = wKI H2232 m := (wKI_fr w2236 gm f2361 rfl)
      have k2372 : H2356 x 9 = H2232 x 9 := (f2361 x 9 _ gx rfl)
      have k2373 : H2356 m 6 = H2232 m 6 := (f2361 m 6 _ gm rfl)
      have k2374 : H2356 x 11 = H2232 x 11 := (f2361 x 11 _ gx rfl)
      have k2375 : H2356 m 13 = H2232 m 13 := (f2361 m 13 _ gm rfl)
      have k2376 : H2356 x 8 = H2232 x 8 := (f2361 x 8 _ gx rfl)
      have k2377 : H2356 m 3 = H2232 m 3 := (f2361 m 3 _ gm rfl)
      have k2378 : H2356 x 0 = H x 0 := ((f2361 x 0 _ gx rfl).trans (f2237 x 0 _ gx rfl))
      have q2379 : H2356 x 0 = (tc : Int) := k2378.trans e0
      have k2380 : H2356 m 5 = H m 5 := ((f2361 m 5 _ gm rfl).trans (f2237 m 5 _ gm rfl))
      have q2381 : H2356 m 5 = (tm : Int) := k2380.trans em
      have k2382 : H2356 x 6 = H x 6 := ((f2361 x 6 _ gx rfl).trans (f2237 x 6 _ gx rfl))
      have q2383 : H2356 x 6 = (cu : Int) := k2382.trans ecu
      have k2384 : H2356 x 7 = H x 7 := ((f2361 x 7 _ gx rfl).trans (f2237 x 7 _ gx rfl))
      have q2385 : H2356 x 7 = (dr : Int) := k2384.trans edr
      have h2386 : CEN T H2356 ce8 e8 d8 := (CEN_fr w2236 gce8 f2361 rfl (CEN_fr hW gce8 f2237 rfl hcen8))
      have h2387 : TP T H2356 tc B := (TP_fr w2236 gtc f2361 rfl (TP_fr hW gtc f2237 rfl htc))
      have h2388 : TM T H2356 tm B := (TM_fr w2236 gtm f2361 rfl (TM_fr hW gtm f2237 rfl htm))
      have h2389 : DD T H2356 cu  := (DD_fr w2236 gcu f2361 rfl (DD_fr hW gcu f2237 rfl hcu))
      have h2390 : DD T H2356 dr  := (DD_fr w2236 gdr f2361 rfl (DD_fr hW gdr f2237 rfl hdr))
      have h2391 : DE T H2356 cu  := (DE_fr w2236 gcu f2361 rfl (DE_fr hW gcu f2237 rfl hdec))
      have h2392 : DE T H2356 dr  := (DE_fr w2236 gdr f2361 rfl (DE_fr hW gdr f2237 rfl hded))
      have h2393 : SP T H2356 x C8 := (SP_fr w2236 gx f2361 rfl (SP_fr hW gx f2237 rfl hsp))
      have h2394 : CU T H2356 cu e8 d8 n8 := (CU_fr w2236 gcu f2361 rfl (CU_fr hW gcu f2237 rfl hcu8))
      have h2395 : CY T H2356 cu ((d8 0 3)) g8 ((H cu 17)) := (CY_fr w2236 gcu f2361 rfl a2247)
      have k2396 : H2356 x 3 = H x 3 := ((f2361 x 3 _ gx rfl).trans (f2237 x 3 _ gx rfl))
      have q2397 : H2356 x 3 = (ce8 : Int) := k2396.trans ece8
      have h2398 : HDR T H2356 ce8  := (HDR_fr w2236 gce8 f2361 rfl (HDR_fr hW gce8 f2237 rfl hhdr8))
      have h2399 : KNN T H2356 m e8 d8 := (KNN_fr w2236 gm f2361 rfl (KNN_fr hW gm f2237 rfl hknn8))
      exfalso
      omega
    · show WL _ _ _ _ 549 [(4, vI i), (3, .ref o), (2, .ref m), (1, .ref x), (0, .ref 0)] [vI z2362] _ H2356
      refine wl_of hX hb cL_549 (rw_pop (pc' := 550) rfl rfl ?_)
      refine wl_of hX hb cL_550 (rw_goto (p1 := 1653) (by decide) ?_)
      have k2400 : wKI H2356 m = wKI H2232 m := (wKI_fr w2236 gm f2361 rfl)
      have k2401 : H2356 x 9 = H2232 x 9 := (f2361 x 9 _ gx rfl)
      have k2402 : H2356 m 6 = H2232 m 6 := (f2361 m 6 _ gm rfl)
      have k2403 : H2356 x 11 = H2232 x 11 := (f2361 x 11 _ gx rfl)
      have k2404 : H2356 m 13 = H2232 m 13 := (f2361 m 13 _ gm rfl)
      have k2405 : H2356 x 8 = H2232 x 8 := (f2361 x 8 _ gx rfl)
      have k2406 : H2356 m 3 = H2232 m 3 := (f2361 m 3 _ gm rfl)
      have k2407 : H2356 x 0 = H x 0 := ((f2361 x 0 _ gx rfl).trans (f2237 x 0 _ gx rfl))
      have q2408 : H2356 x 0 = (tc : Int) := k2407.trans e0
      have k2409 : H2356 m 5 = H m 5 := ((f2361 m 5 _ gm rfl).trans (f2237 m 5 _ gm rfl))
      have q2410 : H2356 m 5 = (tm : Int) := k2409.trans em
      have k2411 : H2356 x 6 = H x 6 := ((f2361 x 6 _ gx rfl).trans (f2237 x 6 _ gx rfl))
      have q2412 : H2356 x 6 = (cu : Int) := k2411.trans ecu
      have k2413 : H2356 x 7 = H x 7 := ((f2361 x 7 _ gx rfl).trans (f2237 x 7 _ gx rfl))
      have q2414 : H2356 x 7 = (dr : Int) := k2413.trans edr
      have h2415 : CEN T H2356 ce8 e8 d8 := (CEN_fr w2236 gce8 f2361 rfl (CEN_fr hW gce8 f2237 rfl hcen8))
      have h2416 : TP T H2356 tc B := (TP_fr w2236 gtc f2361 rfl (TP_fr hW gtc f2237 rfl htc))
      have h2417 : TM T H2356 tm B := (TM_fr w2236 gtm f2361 rfl (TM_fr hW gtm f2237 rfl htm))
      have h2418 : DD T H2356 cu  := (DD_fr w2236 gcu f2361 rfl (DD_fr hW gcu f2237 rfl hcu))
      have h2419 : DD T H2356 dr  := (DD_fr w2236 gdr f2361 rfl (DD_fr hW gdr f2237 rfl hdr))
      have h2420 : DE T H2356 cu  := (DE_fr w2236 gcu f2361 rfl (DE_fr hW gcu f2237 rfl hdec))
      have h2421 : DE T H2356 dr  := (DE_fr w2236 gdr f2361 rfl (DE_fr hW gdr f2237 rfl hded))
      have h2422 : SP T H2356 x C8 := (SP_fr w2236 gx f2361 rfl (SP_fr hW gx f2237 rfl hsp))
      have h2423 : CU T H2356 cu e8 d8 n8 := (CU_fr w2236 gcu f2361 rfl (CU_fr hW gcu f2237 rfl hcu8))
      have h2424 : CY T H2356 cu ((d8 0 3)) g8 ((H cu 17)) := (CY_fr w2236 gcu f2361 rfl a2247)
      have k2425 : H2356 x 3 = H x 3 := ((f2361 x 3 _ gx rfl).trans (f2237 x 3 _ gx rfl))
      have q2426 : H2356 x 3 = (ce8 : Int) := k2425.trans ece8
      have h2427 : HDR T H2356 ce8  := (HDR_fr w2236 gce8 f2361 rfl (HDR_fr hW gce8 f2237 rfl hhdr8))
      have h2428 : KNN T H2356 m e8 d8 := (KNN_fr w2236 gm f2361 rfl (KNN_fr hW gm f2237 rfl hknn8))
      have h2429 : RB T H2356 m e8 d8 := (RB_fr w2236 gm f2361 rfl h2352)
      exact WL.loc hX (by simp) (next T H2356 ⟨⟨w2360, g0, gx, gm, go, by omega, by omega⟩, ⟨_, tc, tm, cu, dr, _, _, _, _, _, ce8, q2408, gtc, h2416, q2410, gtm, h2417, q2412, gcu, q2414, gdr, h2418, h2419, h2420, h2421, h2422, hC1, hC2, h2423, h2429, (h2424).1, (a2370).1, hE, hZ, (by omega), (by assumption), (by omega), (by first | assumption | exact SG_0), q2426, gce8, h2415, h2427, h2428, gm⟩, by omega, by omega⟩ (by omega) (by omega))
set_option maxHeartbeats 4000000 in
theorem wl_c9 {kt : Nat → Option mc_E} {CB SB : Nat} {X : mc_S → Prop} {T : wq_T} {H : wq_H} {Len x m o : Nat} {i : Int} (hX : wlX kt CB SB X) (hb : T.2.1 ≤ CB ∧ T.2.2.1 ≤ SB) (hI : wlJ Len x m o T H) (hL : Len ≤ 3072) (hi : 0 ≤ i ∧ i + 6 ≤ Len) (hb2 : T.2.1 + 20 ≤ CB ∧ T.2.2.1 + 500 ≤ SB)  (next : ∀ T' H', wlJ Len x m o T' H' → T'.2.1 ≤ T.2.1 + 20 → T'.2.2.1 ≤ T.2.2.1 + 500 → WL kt CB SB X 1653 (wlL i x m o) [] T' H') : WL kt CB SB X 553 (wlL i x m o) [] T H := by
  obtain ⟨⟨hW, g0, gx, gm, go, hK, hr⟩, hXI, hY1, hY2⟩ := hI
  refine wl_of hX hb cL_553 (rw_aload_n (pc' := 554) (v := .ref x) rfl rfl rfl ?_)
  refine wl_of hX hb cL_554 (rw_aload_n (pc' := 555) (v := .ref 0) rfl rfl rfl ?_)
  refine wl_of hX hb cL_555 (rw_iload (pc' := 557) (z := i) rfl rfl ?_)
  refine wl_of hX hb cL_557 (rw_iconst (pc' := 558) rfl ?_)
  refine wl_of hX hb cL_558 (rw_iadd (pc' := 559) rfl ?_)
  refine wl_of hX hb cL_559 (xa_I (so := 0) (pc' := 560) (a := 0) hW g0 (wsh_s _) (by omega) (wty_s _ _) (by omega) (by omega) rfl (fun b2430 b2431 => ?_))
  refine wl_of hX hb cL_560 (xc_V (pc' := 563) (r := x) (as := [vI (H 0 ((i + 1).toNat))]) (st := []) (lm_11_60) rfl rfl (Nat.le_of_ble_eq_true rfl) hW gx sh_1 (by decide) rfl (by decide) (s_65 hW gx ⟨by omega, by omega⟩) (fun R2432 T2433 H2434 p2435 => ?_))
  obtain ⟨e2436, w2438, f2439, z2440, e2437, b2441⟩ := p2435
  subst e2436
  subst e2437
  show WL _ _ _ _ 563 [(4, vI i), (3, .ref o), (2, .ref m), (1, .ref x), (0, .ref 0)] [vI z2440] _ H2434
  refine wl_of hX hb cL_563 (rw_pop (pc' := 564) rfl rfl ?_)
  refine wl_of hX hb cL_564 (rw_aload_n (pc' := 565) (v := .ref m) rfl rfl rfl ?_)
  refine wl_of hX hb cL_565 (rw_aload_n (pc' := 566) (v := .ref 0) rfl rfl rfl ?_)
  refine wl_of hX hb cL_566 (rw_iload (pc' := 568) (z := i) rfl rfl ?_)
  refine wl_of hX hb cL_568 (rw_iconst (pc' := 569) rfl ?_)
  refine wl_of hX hb cL_569 (rw_iadd (pc' := 570) rfl ?_)
  have k2444 : H2434 0 ((i + 1).toNat) = H 0 ((i + 1).toNat) := (f2439 0 ((i + 1).toNat) _ g0 (wmem_s rfl))
  refine wl_of hX hb cL_570 (xa_I (so := 0) (pc' := 571) (a := 0) w2438 g0 (wsh_s _) (by omega) (wty_s _ _) (by omega) (by omega) rfl (fun b2442 b2443 => ?_))
  have k2445 : wKI H2434 m = wKI H m := (wKI_fr hW gm f2439 rfl)
  have k2446 : H2434 x 9 = H x 9 := (f2439 x 9 _ gx rfl)
  have k2447 : H2434 m 6 = H m 6 := (f2439 m 6 _ gm rfl)
  have k2448 : H2434 x 11 = H x 11 := (f2439 x 11 _ gx rfl)
  have k2449 : H2434 m 13 = H m 13 := (f2439 m 13 _ gm rfl)
  have k2450 : H2434 x 8 = H x 8 := (f2439 x 8 _ gx rfl)
  have k2451 : H2434 m 3 = H m 3 := (f2439 m 3 _ gm rfl)
  refine wl_of hX hb cL_571 (xc_V (pc' := 574) (r := m) (as := [vI (H2434 0 ((i + 1).toNat))]) (st := []) (lm_11_63) rfl rfl (Nat.le_of_ble_eq_true rfl) w2438 gm sh_42 (by decide) rfl (by decide) (s_225 w2438 gm ⟨by omega, by omega⟩ (by omega)) (fun R2452 T2453 H2454 p2455 => ?_))
  obtain ⟨e2456, w2458, f2459, z2461, e2457, b2462, p2460⟩ := p2455
  subst e2456
  subst e2457
  show WL _ _ _ _ 574 [(4, vI i), (3, .ref o), (2, .ref m), (1, .ref x), (0, .ref 0)] [vI z2461] _ H2454
  refine wl_of hX hb cL_574 (rw_pop (pc' := 575) rfl rfl ?_)
  refine wl_of hX hb cL_575 (rw_goto (p1 := 1653) (by decide) ?_)
  have k2463 : H2454 x 9 = H2434 x 9 := (f2459 x 9 _ gx rfl)
  have k2464 : H2454 m 6 = H2434 m 6 := (f2459 m 6 _ gm rfl)
  have k2465 : H2454 x 11 = H2434 x 11 := (f2459 x 11 _ gx rfl)
  have k2466 : H2454 m 13 = H2434 m 13 := (f2459 m 13 _ gm rfl)
  have k2467 : H2454 x 8 = H2434 x 8 := (f2459 x 8 _ gx rfl)
  have k2468 : H2454 m 3 = H2434 m 3 := (f2459 m 3 _ gm rfl)
  have h2469 : XI T H2454 x m := (XI_fr w2438 gx f2459 rfl (XI_fr hW gx f2439 rfl hXI))
  exact WL.loc hX (by simp) (next T H2454 ⟨⟨w2458, g0, gx, gm, go, by omega, by omega⟩, h2469, by omega, by omega⟩ (by omega) (by omega))
set_option maxHeartbeats 4000000 in
theorem wl_c10 {kt : Nat → Option mc_E} {CB SB : Nat} {X : mc_S → Prop} {T : wq_T} {H : wq_H} {Len x m o : Nat} {i : Int} (hX : wlX kt CB SB X) (hb : T.2.1 ≤ CB ∧ T.2.2.1 ≤ SB) (hI : wlJ Len x m o T H) (hL : Len ≤ 3072) (hi : 0 ≤ i ∧ i + 6 ≤ Len) (hb2 : T.2.1 + 20 ≤ CB ∧ T.2.2.1 + 500 ≤ SB)  (next : ∀ T' H', wlJ Len x m o T' H' → T'.2.1 ≤ T.2.1 + 20 → T'.2.2.1 ≤ T.2.2.1 + 500 → WL kt CB SB X 1653 (wlL i x m o) [] T' H') : WL kt CB SB X 578 (wlL i x m o) [] T H := by
  obtain ⟨⟨hW, g0, gx, gm, go, hK, hr⟩, hXI, hY1, hY2⟩ := hI
  refine wl_of hX hb cL_578 (rw_aload_n (pc' := 579) (v := .ref x) rfl rfl rfl ?_)
  refine wl_of hX hb cL_579 (rw_aload_n (pc' := 580) (v := .ref 0) rfl rfl rfl ?_)
  refine wl_of hX hb cL_580 (rw_iload (pc' := 582) (z := i) rfl rfl ?_)
  refine wl_of hX hb cL_582 (rw_iconst (pc' := 583) rfl ?_)
  refine wl_of hX hb cL_583 (rw_iadd (pc' := 584) rfl ?_)
  refine wl_of hX hb cL_584 (xa_I (so := 0) (pc' := 585) (a := 0) hW g0 (wsh_s _) (by omega) (wty_s _ _) (by omega) (by omega) rfl (fun b2470 b2471 => ?_))
  refine wl_of hX hb cL_585 (xc_V (pc' := 588) (r := x) (as := [vI (H 0 ((i + 1).toNat))]) (st := []) (lm_11_64) rfl rfl (Nat.le_of_ble_eq_true rfl) hW gx sh_1 (by decide) rfl (by decide) (s_66 hW gx ⟨by omega, by omega⟩) (fun R2472 T2473 H2474 p2475 => ?_))
  obtain ⟨e2476, w2478, f2479, z2480, e2477, b2481⟩ := p2475
  subst e2476
  subst e2477
  show WL _ _ _ _ 588 [(4, vI i), (3, .ref o), (2, .ref m), (1, .ref x), (0, .ref 0)] [vI z2480] _ H2474
  refine wl_of hX hb cL_588 (rw_pop (pc' := 589) rfl rfl ?_)
  refine wl_of hX hb cL_589 (rw_aload_n (pc' := 590) (v := .ref m) rfl rfl rfl ?_)
  refine wl_of hX hb cL_590 (rw_aload_n (pc' := 591) (v := .ref 0) rfl rfl rfl ?_)
  refine wl_of hX hb cL_591 (rw_iload (pc' := 593) (z := i) rfl rfl ?_)
  refine wl_of hX hb cL_593 (rw_iconst (pc' := 594) rfl ?_)
  refine wl_of hX hb cL_594 (rw_iadd (pc' := 595) rfl ?_)
  have k2484 : H2474 0 ((i + 1).toNat) = H 0 ((i + 1).toNat) := (f2479 0 ((i + 1).toNat) _ g0 (wmem_s rfl))
  refine wl_of hX hb cL_595 (xa_I (so := 0) (pc' := 596) (a := 0) w2478 g0 (wsh_s _) (by omega) (wty_s _ _) (by omega) (by omega) rfl (fun b2482 b2483 => ?_))
  have k2485 : wKI H2474 m = wKI H m := (wKI_fr hW gm f2479 rfl)
  have k2486 : H2474 x 9 = H x 9 := (f2479 x 9 _ gx rfl)
  have k2487 : H2474 m 6 = H m 6 := (f2479 m 6 _ gm rfl)
  have k2488 : H2474 x 11 = H x 11 := (f2479 x 11 _ gx rfl)
  have k2489 : H2474 m 13 = H m 13 := (f2479 m 13 _ gm rfl)
  have k2490 : H2474 x 8 = H x 8 := (f2479 x 8 _ gx rfl)
  have k2491 : H2474 m 3 = H m 3 := (f2479 m 3 _ gm rfl)
  refine wl_of hX hb cL_596 (xc_V (pc' := 599) (r := m) (as := [vI (H2474 0 ((i + 1).toNat))]) (st := []) (lm_11_67) rfl rfl (Nat.le_of_ble_eq_true rfl) w2478 gm sh_42 (by decide) rfl (by decide) (s_226 w2478 gm ⟨by omega, by omega⟩ (by omega)) (fun R2492 T2493 H2494 p2495 => ?_))
  obtain ⟨e2496, w2498, f2499, z2501, e2497, b2502, p2500⟩ := p2495
  subst e2496
  subst e2497
  show WL _ _ _ _ 599 [(4, vI i), (3, .ref o), (2, .ref m), (1, .ref x), (0, .ref 0)] [vI z2501] _ H2494
  refine wl_of hX hb cL_599 (rw_pop (pc' := 600) rfl rfl ?_)
  refine wl_of hX hb cL_600 (rw_goto (p1 := 1653) (by decide) ?_)
  have k2503 : H2494 x 9 = H2474 x 9 := (f2499 x 9 _ gx rfl)
  have k2504 : H2494 m 6 = H2474 m 6 := (f2499 m 6 _ gm rfl)
  have k2505 : H2494 x 11 = H2474 x 11 := (f2499 x 11 _ gx rfl)
  have k2506 : H2494 m 13 = H2474 m 13 := (f2499 m 13 _ gm rfl)
  have k2507 : H2494 x 8 = H2474 x 8 := (f2499 x 8 _ gx rfl)
  have k2508 : H2494 m 3 = H2474 m 3 := (f2499 m 3 _ gm rfl)
  have h2509 : XI T H2494 x m := (XI_fr w2478 gx f2499 rfl (XI_fr hW gx f2479 rfl hXI))
  exact WL.loc hX (by simp) (next T H2494 ⟨⟨w2498, g0, gx, gm, go, by omega, by omega⟩, h2509, by omega, by omega⟩ (by omega) (by omega))
set_option maxHeartbeats 4000000 in
theorem wl_c11 {kt : Nat → Option mc_E} {CB SB : Nat} {X : mc_S → Prop} {T : wq_T} {H : wq_H} {Len x m o : Nat} {i : Int} (hX : wlX kt CB SB X) (hb : T.2.1 ≤ CB ∧ T.2.2.1 ≤ SB) (hI : wlJ Len x m o T H) (hL : Len ≤ 3072) (hi : 0 ≤ i ∧ i + 6 ≤ Len) (hb2 : T.2.1 + 20 ≤ CB ∧ T.2.2.1 + 500 ≤ SB)  (next : ∀ T' H', wlJ Len x m o T' H' → T'.2.1 ≤ T.2.1 + 20 → T'.2.2.1 ≤ T.2.2.1 + 500 → WL kt CB SB X 1653 (wlL i x m o) [] T' H') : WL kt CB SB X 603 (wlL i x m o) [] T H := by
  obtain ⟨⟨hW, g0, gx, gm, go, hK, hr⟩, hXI, hY1, hY2⟩ := hI
  refine wl_of hX hb cL_603 (rw_aload_n (pc' := 604) (v := .ref x) rfl rfl rfl ?_)
  refine wl_of hX hb cL_604 (xc_V (pc' := 607) (r := x) (as := []) (st := []) (lm_11_68) rfl rfl (Nat.le_of_ble_eq_true rfl) hW gx sh_1 (by decide) rfl (by decide) (s_73 hW gx) (fun R2510 T2511 H2512 p2513 => ?_))
  obtain ⟨e2514, w2516, f2517, z2518, e2515, b2519⟩ := p2513
  subst e2514
  subst e2515
  show WL _ _ _ _ 607 [(4, vI i), (3, .ref o), (2, .ref m), (1, .ref x), (0, .ref 0)] [vI z2518] _ H2512
  refine wl_of hX hb cL_607 (rw_pop (pc' := 608) rfl rfl ?_)
  refine wl_of hX hb cL_608 (rw_aload_n (pc' := 609) (v := .ref m) rfl rfl rfl ?_)
  have k2520 : wKI H2512 m = wKI H m := (wKI_fr hW gm f2517 rfl)
  have k2521 : H2512 x 9 = H x 9 := (f2517 x 9 _ gx rfl)
  have k2522 : H2512 m 6 = H m 6 := (f2517 m 6 _ gm rfl)
  have k2523 : H2512 x 11 = H x 11 := (f2517 x 11 _ gx rfl)
  have k2524 : H2512 m 13 = H m 13 := (f2517 m 13 _ gm rfl)
  have k2525 : H2512 x 8 = H x 8 := (f2517 x 8 _ gx rfl)
  have k2526 : H2512 m 3 = H m 3 := (f2517 m 3 _ gm rfl)
  refine wl_of hX hb cL_609 (xc_V (pc' := 612) (r := m) (as := []) (st := []) (lm_11_71) rfl rfl (Nat.le_of_ble_eq_true rfl) w2516 gm sh_42 (by decide) rfl (by decide) (s_230 w2516 gm (by omega)) (fun R2527 T2528 H2529 p2530 => ?_))
  obtain ⟨e2531, w2533, f2534, z2536, e2532, b2537, p2535⟩ := p2530
  subst e2531
  subst e2532
  show WL _ _ _ _ 612 [(4, vI i), (3, .ref o), (2, .ref m), (1, .ref x), (0, .ref 0)] [vI z2536] _ H2529
  refine wl_of hX hb cL_612 (rw_pop (pc' := 613) rfl rfl ?_)
  refine wl_of hX hb cL_613 (rw_goto (p1 := 1653) (by decide) ?_)
  have k2538 : H2529 x 9 = H2512 x 9 := (f2534 x 9 _ gx rfl)
  have k2539 : H2529 m 6 = H2512 m 6 := (f2534 m 6 _ gm rfl)
  have k2540 : H2529 x 11 = H2512 x 11 := (f2534 x 11 _ gx rfl)
  have k2541 : H2529 m 13 = H2512 m 13 := (f2534 m 13 _ gm rfl)
  have k2542 : H2529 x 8 = H2512 x 8 := (f2534 x 8 _ gx rfl)
  have k2543 : H2529 m 3 = H2512 m 3 := (f2534 m 3 _ gm rfl)
  have h2544 : XI T H2529 x m := (XI_fr w2516 gx f2534 rfl (XI_fr hW gx f2517 rfl hXI))
  exact WL.loc hX (by simp) (next T H2529 ⟨⟨w2533, g0, gx, gm, go, by omega, by omega⟩, h2544, by omega, by omega⟩ (by omega) (by omega))
set_option maxHeartbeats 4000000 in
theorem wl_c12 {kt : Nat → Option mc_E} {CB SB : Nat} {X : mc_S → Prop} {T : wq_T} {H : wq_H} {Len x m o : Nat} {i : Int} (hX : wlX kt CB SB X) (hb : T.2.1 ≤ CB ∧ T.2.2.1 ≤ SB) (hI : wlJ Len x m o T H) (hL : Len ≤ 3072) (hi : 0 ≤ i ∧ i + 6 ≤ Len) (hb2 : T.2.1 + 20 ≤ CB ∧ T.2.2.1 + 500 ≤ SB)  (next : ∀ T' H', wlJ Len x m o T' H' → T'.2.1 ≤ T.2.1 + 20 → T'.2.2.1 ≤ T.2.2.1 + 500 → WL kt CB SB X 1653 (wlL i x m o) [] T' H') : WL kt CB SB X 616 (wlL i x m o) [] T H := by
  obtain ⟨⟨hW, g0, gx, gm, go, hK, hr⟩, hXI, hY1, hY2⟩ := hI
  refine wl_of hX hb cL_616 (rw_aload_n (pc' := 617) (v := .ref x) rfl rfl rfl ?_)
  refine wl_of hX hb cL_617 (xc_V (pc' := 620) (r := x) (as := []) (st := []) (lm_11_72) rfl rfl (Nat.le_of_ble_eq_true rfl) hW gx sh_1 (by decide) rfl (by decide) (s_77 hW gx) (fun R2545 T2546 H2547 p2548 => ?_))
  obtain ⟨e2549, w2551, f2552, z2553, e2550, b2554⟩ := p2548
  subst e2549
  subst e2550
  show WL _ _ _ _ 620 [(4, vI i), (3, .ref o), (2, .ref m), (1, .ref x), (0, .ref 0)] [vI z2553] _ H2547
  refine wl_of hX hb cL_620 (rw_pop (pc' := 621) rfl rfl ?_)
  refine wl_of hX hb cL_621 (rw_aload_n (pc' := 622) (v := .ref m) rfl rfl rfl ?_)
  have k2555 : wKI H2547 m = wKI H m := (wKI_fr hW gm f2552 rfl)
  have k2556 : H2547 x 9 = H x 9 := (f2552 x 9 _ gx rfl)
  have k2557 : H2547 m 6 = H m 6 := (f2552 m 6 _ gm rfl)
  have k2558 : H2547 x 11 = H x 11 := (f2552 x 11 _ gx rfl)
  have k2559 : H2547 m 13 = H m 13 := (f2552 m 13 _ gm rfl)
  have k2560 : H2547 x 8 = H x 8 := (f2552 x 8 _ gx rfl)
  have k2561 : H2547 m 3 = H m 3 := (f2552 m 3 _ gm rfl)
  refine wl_of hX hb cL_622 (xc_V (pc' := 625) (r := m) (as := []) (st := []) (lm_11_75) rfl rfl (Nat.le_of_ble_eq_true rfl) w2551 gm sh_42 (by decide) rfl (by decide) (s_236 w2551 gm (by omega)) (fun R2562 T2563 H2564 p2565 => ?_))
  obtain ⟨e2566, w2568, f2569, z2571, e2567, b2572, p2570⟩ := p2565
  subst e2566
  subst e2567
  show WL _ _ _ _ 625 [(4, vI i), (3, .ref o), (2, .ref m), (1, .ref x), (0, .ref 0)] [vI z2571] _ H2564
  refine wl_of hX hb cL_625 (rw_pop (pc' := 626) rfl rfl ?_)
  refine wl_of hX hb cL_626 (rw_goto (p1 := 1653) (by decide) ?_)
  have k2573 : H2564 x 9 = H2547 x 9 := (f2569 x 9 _ gx rfl)
  have k2574 : H2564 m 6 = H2547 m 6 := (f2569 m 6 _ gm rfl)
  have k2575 : H2564 x 11 = H2547 x 11 := (f2569 x 11 _ gx rfl)
  have k2576 : H2564 m 13 = H2547 m 13 := (f2569 m 13 _ gm rfl)
  have k2577 : H2564 x 8 = H2547 x 8 := (f2569 x 8 _ gx rfl)
  have k2578 : H2564 m 3 = H2547 m 3 := (f2569 m 3 _ gm rfl)
  have h2579 : XI T H2564 x m := (XI_fr w2551 gx f2569 rfl (XI_fr hW gx f2552 rfl hXI))
  exact WL.loc hX (by simp) (next T H2564 ⟨⟨w2568, g0, gx, gm, go, by omega, by omega⟩, h2579, by omega, by omega⟩ (by omega) (by omega))
set_option maxHeartbeats 4000000 in
theorem wl_c13 {kt : Nat → Option mc_E} {CB SB : Nat} {X : mc_S → Prop} {T : wq_T} {H : wq_H} {Len x m o : Nat} {i : Int} (hX : wlX kt CB SB X) (hb : T.2.1 ≤ CB ∧ T.2.2.1 ≤ SB) (hI : wlJ Len x m o T H) (hL : Len ≤ 3072) (hi : 0 ≤ i ∧ i + 6 ≤ Len) (hb2 : T.2.1 + 20 ≤ CB ∧ T.2.2.1 + 500 ≤ SB)  (next : ∀ T' H', wlJ Len x m o T' H' → T'.2.1 ≤ T.2.1 + 20 → T'.2.2.1 ≤ T.2.2.1 + 500 → WL kt CB SB X 1653 (wlL i x m o) [] T' H') : WL kt CB SB X 629 (wlL i x m o) [] T H := by
  obtain ⟨⟨hW, g0, gx, gm, go, hK, hr⟩, hXI, hY1, hY2⟩ := hI
  refine wl_of hX hb cL_629 (rw_aload_n (pc' := 630) (v := .ref x) rfl rfl rfl ?_)
  refine wl_of hX hb cL_630 (xc_V (pc' := 633) (r := x) (as := []) (st := []) (lm_11_76) rfl rfl (Nat.le_of_ble_eq_true rfl) hW gx sh_1 (by decide) rfl (by decide) (s_78 hW gx) (fun R2580 T2581 H2582 p2583 => ?_))
  obtain ⟨e2584, w2586, f2587, z2588, e2585, b2589⟩ := p2583
  subst e2584
  subst e2585
  show WL _ _ _ _ 633 [(4, vI i), (3, .ref o), (2, .ref m), (1, .ref x), (0, .ref 0)] [vI z2588] _ H2582
  refine wl_of hX hb cL_633 (rw_pop (pc' := 634) rfl rfl ?_)
  refine wl_of hX hb cL_634 (rw_aload_n (pc' := 635) (v := .ref m) rfl rfl rfl ?_)
  have k2590 : wKI H2582 m = wKI H m := (wKI_fr hW gm f2587 rfl)
  have k2591 : H2582 x 9 = H x 9 := (f2587 x 9 _ gx rfl)
  have k2592 : H2582 m 6 = H m 6 := (f2587 m 6 _ gm rfl)
  have k2593 : H2582 x 11 = H x 11 := (f2587 x 11 _ gx rfl)
  have k2594 : H2582 m 13 = H m 13 := (f2587 m 13 _ gm rfl)
  have k2595 : H2582 x 8 = H x 8 := (f2587 x 8 _ gx rfl)
  have k2596 : H2582 m 3 = H m 3 := (f2587 m 3 _ gm rfl)
  refine wl_of hX hb cL_635 (xc_V (pc' := 638) (r := m) (as := []) (st := []) (lm_11_79) rfl rfl (Nat.le_of_ble_eq_true rfl) w2586 gm sh_42 (by decide) rfl (by decide) (s_237 w2586 gm (by omega)) (fun R2597 T2598 H2599 p2600 => ?_))
  obtain ⟨e2601, w2603, f2604, z2606, e2602, b2607, p2605⟩ := p2600
  subst e2601
  subst e2602
  show WL _ _ _ _ 638 [(4, vI i), (3, .ref o), (2, .ref m), (1, .ref x), (0, .ref 0)] [vI z2606] _ H2599
  refine wl_of hX hb cL_638 (rw_pop (pc' := 639) rfl rfl ?_)
  refine wl_of hX hb cL_639 (rw_goto (p1 := 1653) (by decide) ?_)
  have k2608 : H2599 x 9 = H2582 x 9 := (f2604 x 9 _ gx rfl)
  have k2609 : H2599 m 6 = H2582 m 6 := (f2604 m 6 _ gm rfl)
  have k2610 : H2599 x 11 = H2582 x 11 := (f2604 x 11 _ gx rfl)
  have k2611 : H2599 m 13 = H2582 m 13 := (f2604 m 13 _ gm rfl)
  have k2612 : H2599 x 8 = H2582 x 8 := (f2604 x 8 _ gx rfl)
  have k2613 : H2599 m 3 = H2582 m 3 := (f2604 m 3 _ gm rfl)
  have h2614 : XI T H2599 x m := (XI_fr w2586 gx f2604 rfl (XI_fr hW gx f2587 rfl hXI))
  exact WL.loc hX (by simp) (next T H2599 ⟨⟨w2603, g0, gx, gm, go, by omega, by omega⟩, h2614, by omega, by omega⟩ (by omega) (by omega))
set_option maxHeartbeats 4000000 in
theorem wl_c14 {kt : Nat → Option mc_E} {CB SB : Nat} {X : mc_S → Prop} {T : wq_T} {H : wq_H} {Len x m o : Nat} {i : Int} (hX : wlX kt CB SB X) (hb : T.2.1 ≤ CB ∧ T.2.2.1 ≤ SB) (hI : wlJ Len x m o T H) (hL : Len ≤ 3072) (hi : 0 ≤ i ∧ i + 6 ≤ Len) (hb2 : T.2.1 + 20 ≤ CB ∧ T.2.2.1 + 500 ≤ SB)  (next : ∀ T' H', wlJ Len x m o T' H' → T'.2.1 ≤ T.2.1 + 20 → T'.2.2.1 ≤ T.2.2.1 + 500 → WL kt CB SB X 1653 (wlL i x m o) [] T' H') : WL kt CB SB X 642 (wlL i x m o) [] T H := by
  obtain ⟨⟨hW, g0, gx, gm, go, hK, hr⟩, hXI, hY1, hY2⟩ := hI
  refine wl_of hX hb cL_642 (rw_aload_n (pc' := 643) (v := .ref x) rfl rfl rfl ?_)
  obtain ⟨B, tc, tm, cu, dr, C8, e8, d8, n8, g8, ce8, e0, gtc, htc, em, gtm, htm, ecu, gcu, edr, gdr, hcu, hdr, hdec, hded, hsp, hC1, hC2, hcu8, hrb8, hcg8, hmn8, hE, hZ, hn8, hXA, hV8, hSG, ece8, gce8, hcen8, hhdr8, hknn8, -⟩ := hXI
  have hN3 := RB_n3 hrb8
  have hE13 : ∀ h : Nat, h < 24 → 0 ≤ e8 13 h ∧ e8 13 h ≤ 100 := fun k hk => by
    obtain ⟨s, h1, h2, h3⟩ := hcu8.1.2.2.1
    exact ⟨(h3 k hk).1, (h3 k hk).2.1⟩
  have hXW := hXA.1
  have hXN := hXA.2
  have hE0 : e8 0 3 = d8 0 3 ∧ e8 0 0 = d8 0 0 := by
    have h := hE 0 (by decide)
    exact ⟨congrFun h 3, congrFun h 0⟩
  have u2615 := CU_k hcu8
  have h2616 : CY T H cu (d8 0 3) g8 (H cu 17) := ⟨hcg8, rfl⟩
  have h2617 : RY T H m (d8 0 3) g8 (H m 32) := ⟨hmn8, rfl⟩
  obtain ⟨t9, ht9⟩ : ∃ t : Int, t = H x 9 := ⟨_, rfl⟩
  obtain ⟨r2618, q2619, g2620⟩ := hW.ref gx (t' := 6) (n := 13) (j := 2) (p := 0) (q := 0) rfl (by decide) rfl
  refine wl_of hX hb cL_643 (xc_V (pc' := 646) (r := x) (as := []) (st := []) (lm_11_80) rfl rfl (Nat.le_of_ble_eq_true rfl) hW gx sh_1 (by decide) rfl (by decide) (u_82 (e := e8) (d := d8) (n := n8) hW gx ecu gcu q2619 g2620 ece8 gce8 (by assumption) (by assumption) (by omega) (by omega) (by omega) (by omega) hcu8 hcen8 hhdr8) (fun R2621 T2622 H2623 p2624 => ?_))
  obtain ⟨e2625, w2627, f2628, z2629, e2626, b2630, p2631⟩ := p2624
  subst e2625
  subst e2626
  rcases p2631 with ⟨a2632, a2633, a2634⟩ | ⟨a2635, a2636, a2637⟩
  · show WL _ _ _ _ 646 [(4, vI i), (3, .ref o), (2, .ref m), (1, .ref x), (0, .ref 0)] [vI z2629] _ H2623
    refine wl_of hX hb cL_646 (rw_pop (pc' := 647) rfl rfl ?_)
    refine wl_of hX hb cL_647 (rw_aload_n (pc' := 648) (v := .ref m) rfl rfl rfl ?_)
    have k2638 : wKI H2623 m = wKI H m := (wKI_fr hW gm f2628 rfl)
    have k2639 : H2623 x 9 = H x 9 := (f2628 x 9 _ gx rfl)
    have k2640 : H2623 m 6 = H m 6 := (f2628 m 6 _ gm rfl)
    have k2641 : H2623 x 11 = H x 11 := (f2628 x 11 _ gx rfl)
    have k2642 : H2623 m 13 = H m 13 := (f2628 m 13 _ gm rfl)
    have k2643 : H2623 x 8 = H x 8 := (f2628 x 8 _ gx rfl)
    have k2644 : H2623 m 3 = H m 3 := (f2628 m 3 _ gm rfl)
    have h2645 : RB T H2623 m e8 d8 := (RB_fr hW gm f2628 rfl hrb8)
    have h2646 : KNN T H2623 m e8 d8 := (KNN_fr hW gm f2628 rfl hknn8)
    refine wl_of hX hb cL_648 (xc_V (pc' := 651) (r := m) (as := []) (st := []) (lm_11_83) rfl rfl (Nat.le_of_ble_eq_true rfl) w2627 gm sh_42 (by decide) rfl (by decide) (u_240 (e := e8) (d := d8) w2627 gm (by omega) (by assumption) (by assumption) (by assumption) (by assumption) h2645 h2646) (fun R2647 T2648 H2649 p2650 => ?_))
    obtain ⟨e2651, w2653, f2654, z2655, e2652, b2656, p2657⟩ := p2650
    subst e2651
    subst e2652
    rcases p2657 with ⟨a2658, a2659, a2660, a2661⟩ | ⟨a2662, a2663, a2664, a2665⟩
    · show WL _ _ _ _ 651 [(4, vI i), (3, .ref o), (2, .ref m), (1, .ref x), (0, .ref 0)] [vI z2655] _ H2649
      refine wl_of hX hb cL_651 (rw_pop (pc' := 652) rfl rfl ?_)
      refine wl_of hX hb cL_652 (rw_goto (p1 := 1653) (by decide) ?_)
      have k2666 : H2649 x 9 = H2623 x 9 := (f2654 x 9 _ gx rfl)
      have k2667 : H2649 m 6 = H2623 m 6 := (f2654 m 6 _ gm rfl)
      have k2668 : H2649 x 11 = H2623 x 11 := (f2654 x 11 _ gx rfl)
      have k2669 : H2649 m 13 = H2623 m 13 := (f2654 m 13 _ gm rfl)
      have k2670 : H2649 x 8 = H2623 x 8 := (f2654 x 8 _ gx rfl)
      have k2671 : H2649 m 3 = H2623 m 3 := (f2654 m 3 _ gm rfl)
      have k2672 : H2649 x 0 = H x 0 := ((f2654 x 0 _ gx rfl).trans (f2628 x 0 _ gx rfl))
      have q2673 : H2649 x 0 = (tc : Int) := k2672.trans e0
      have k2674 : H2649 m 5 = H m 5 := ((f2654 m 5 _ gm rfl).trans (f2628 m 5 _ gm rfl))
      have q2675 : H2649 m 5 = (tm : Int) := k2674.trans em
      have k2676 : H2649 x 6 = H x 6 := ((f2654 x 6 _ gx rfl).trans (f2628 x 6 _ gx rfl))
      have q2677 : H2649 x 6 = (cu : Int) := k2676.trans ecu
      have k2678 : H2649 x 7 = H x 7 := ((f2654 x 7 _ gx rfl).trans (f2628 x 7 _ gx rfl))
      have q2679 : H2649 x 7 = (dr : Int) := k2678.trans edr
      have h2680 : CEN T H2649 ce8 e8 d8 := (CEN_fr w2627 gce8 f2654 rfl a2634)
      have h2681 : TP T H2649 tc B := (TP_fr w2627 gtc f2654 rfl (TP_fr hW gtc f2628 rfl htc))
      have h2682 : TM T H2649 tm B := (TM_fr w2627 gtm f2654 rfl (TM_fr hW gtm f2628 rfl htm))
      have h2683 : DD T H2649 cu  := (DD_fr w2627 gcu f2654 rfl (DD_fr hW gcu f2628 rfl hcu))
      have h2684 : DD T H2649 dr  := (DD_fr w2627 gdr f2654 rfl (DD_fr hW gdr f2628 rfl hdr))
      have h2685 : DE T H2649 cu  := (DE_fr w2627 gcu f2654 rfl (DE_fr hW gcu f2628 rfl hdec))
      have h2686 : DE T H2649 dr  := (DE_fr w2627 gdr f2654 rfl (DE_fr hW gdr f2628 rfl hded))
      have h2687 : SP T H2649 x C8 := (SP_fr w2627 gx f2654 rfl (SP_fr hW gx f2628 rfl hsp))
      have h2688 : CU T H2649 cu e8 d8 n8 := (CU_fr w2627 gcu f2654 rfl (CU_fr hW gcu f2628 rfl hcu8))
      have h2689 : CY T H2649 cu (d8 0 3) g8 (H cu 17) := (CY_fr w2627 gcu f2654 rfl (CY_fr hW gcu f2628 rfl h2616))
      have k2690 : H2649 x 3 = H x 3 := ((f2654 x 3 _ gx rfl).trans (f2628 x 3 _ gx rfl))
      have q2691 : H2649 x 3 = (ce8 : Int) := k2690.trans ece8
      have h2692 : HDR T H2649 ce8  := (HDR_fr w2627 gce8 f2654 rfl (HDR_fr hW gce8 f2628 rfl hhdr8))
      have h2693 : RY T H2649 m (d8 0 3) g8 (H m 32) := (RY_fr w2627 gm f2654 rfl (RY_fr hW gm f2628 rfl h2617))
      have h2694 : RB T H2649 m e8 d8 := (RB_fr w2627 gm f2654 rfl h2645)
      exact WL.loc hX (by simp) (next T H2649 ⟨⟨w2653, g0, gx, gm, go, by omega, by omega⟩, ⟨_, tc, tm, cu, dr, _, _, _, _, _, ce8, q2673, gtc, h2681, q2675, gtm, h2682, q2677, gcu, q2679, gdr, h2683, h2684, h2685, h2686, h2687, hC1, hC2, h2688, h2694, (h2689).1, (h2693).1, hE, hZ, (by omega), (by assumption), (by omega), (by first | assumption | exact SG_0), q2691, gce8, h2680, h2692, a2661, gm⟩, by omega, by omega⟩ (by omega) (by omega))
    · show WL _ _ _ _ 651 [(4, vI i), (3, .ref o), (2, .ref m), (1, .ref x), (0, .ref 0)] [vI z2655] _ H2649
      refine wl_of hX hb cL_651 (rw_pop (pc' := 652) rfl rfl ?_)
      refine wl_of hX hb cL_652 (rw_goto (p1 := 1653) (by decide) ?_)
      have k2695 : H2649 x 9 = H2623 x 9 := (f2654 x 9 _ gx rfl)
      have k2696 : H2649 m 6 = H2623 m 6 := (f2654 m 6 _ gm rfl)
      have k2697 : H2649 x 11 = H2623 x 11 := (f2654 x 11 _ gx rfl)
      have k2698 : H2649 m 13 = H2623 m 13 := (f2654 m 13 _ gm rfl)
      have k2699 : H2649 x 8 = H2623 x 8 := (f2654 x 8 _ gx rfl)
      have k2700 : H2649 m 3 = H2623 m 3 := (f2654 m 3 _ gm rfl)
      have k2701 : H2649 x 0 = H x 0 := ((f2654 x 0 _ gx rfl).trans (f2628 x 0 _ gx rfl))
      have q2702 : H2649 x 0 = (tc : Int) := k2701.trans e0
      have k2703 : H2649 m 5 = H m 5 := ((f2654 m 5 _ gm rfl).trans (f2628 m 5 _ gm rfl))
      have q2704 : H2649 m 5 = (tm : Int) := k2703.trans em
      have k2705 : H2649 x 6 = H x 6 := ((f2654 x 6 _ gx rfl).trans (f2628 x 6 _ gx rfl))
      have q2706 : H2649 x 6 = (cu : Int) := k2705.trans ecu
      have k2707 : H2649 x 7 = H x 7 := ((f2654 x 7 _ gx rfl).trans (f2628 x 7 _ gx rfl))
      have q2708 : H2649 x 7 = (dr : Int) := k2707.trans edr
      have h2709 : CEN T H2649 ce8 e8 d8 := (CEN_fr w2627 gce8 f2654 rfl a2634)
      have h2710 : TP T H2649 tc B := (TP_fr w2627 gtc f2654 rfl (TP_fr hW gtc f2628 rfl htc))
      have h2711 : TM T H2649 tm B := (TM_fr w2627 gtm f2654 rfl (TM_fr hW gtm f2628 rfl htm))
      have h2712 : DD T H2649 cu  := (DD_fr w2627 gcu f2654 rfl (DD_fr hW gcu f2628 rfl hcu))
      have h2713 : DD T H2649 dr  := (DD_fr w2627 gdr f2654 rfl (DD_fr hW gdr f2628 rfl hdr))
      have h2714 : DE T H2649 cu  := (DE_fr w2627 gcu f2654 rfl (DE_fr hW gcu f2628 rfl hdec))
      have h2715 : DE T H2649 dr  := (DE_fr w2627 gdr f2654 rfl (DE_fr hW gdr f2628 rfl hded))
      have h2716 : SP T H2649 x C8 := (SP_fr w2627 gx f2654 rfl (SP_fr hW gx f2628 rfl hsp))
      have h2717 : CU T H2649 cu e8 d8 n8 := (CU_fr w2627 gcu f2654 rfl (CU_fr hW gcu f2628 rfl hcu8))
      have h2718 : CY T H2649 cu (d8 0 3) g8 (H cu 17) := (CY_fr w2627 gcu f2654 rfl (CY_fr hW gcu f2628 rfl h2616))
      have k2719 : H2649 x 3 = H x 3 := ((f2654 x 3 _ gx rfl).trans (f2628 x 3 _ gx rfl))
      have q2720 : H2649 x 3 = (ce8 : Int) := k2719.trans ece8
      have h2721 : HDR T H2649 ce8  := (HDR_fr w2627 gce8 f2654 rfl (HDR_fr hW gce8 f2628 rfl hhdr8))
      have h2722 : RY T H2649 m (d8 0 3) g8 (H m 32) := (RY_fr w2627 gm f2654 rfl (RY_fr hW gm f2628 rfl h2617))
      have h2723 : RB T H2649 m e8 d8 := (RB_fr w2627 gm f2654 rfl h2645)
      exact WL.loc hX (by simp) (next T H2649 ⟨⟨w2653, g0, gx, gm, go, by omega, by omega⟩, ⟨_, tc, tm, cu, dr, _, _, _, _, _, ce8, q2702, gtc, h2710, q2704, gtm, h2711, q2706, gcu, q2708, gdr, h2712, h2713, h2714, h2715, h2716, hC1, hC2, h2717, h2723, (h2718).1, (h2722).1, hE, hZ, (by omega), (by assumption), (by omega), (by first | assumption | exact SG_0), q2720, gce8, h2709, h2721, a2665, gm⟩, by omega, by omega⟩ (by omega) (by omega))
  · show WL _ _ _ _ 646 [(4, vI i), (3, .ref o), (2, .ref m), (1, .ref x), (0, .ref 0)] [vI z2629] _ H2623
    refine wl_of hX hb cL_646 (rw_pop (pc' := 647) rfl rfl ?_)
    refine wl_of hX hb cL_647 (rw_aload_n (pc' := 648) (v := .ref m) rfl rfl rfl ?_)
    have k2724 : wKI H2623 m = wKI H m := (wKI_fr hW gm f2628 rfl)
    have k2725 : H2623 x 9 = H x 9 := (f2628 x 9 _ gx rfl)
    have k2726 : H2623 m 6 = H m 6 := (f2628 m 6 _ gm rfl)
    have k2727 : H2623 x 11 = H x 11 := (f2628 x 11 _ gx rfl)
    have k2728 : H2623 m 13 = H m 13 := (f2628 m 13 _ gm rfl)
    have k2729 : H2623 x 8 = H x 8 := (f2628 x 8 _ gx rfl)
    have k2730 : H2623 m 3 = H m 3 := (f2628 m 3 _ gm rfl)
    have h2731 : RB T H2623 m e8 d8 := (RB_fr hW gm f2628 rfl hrb8)
    have h2732 : KNN T H2623 m e8 d8 := (KNN_fr hW gm f2628 rfl hknn8)
    refine wl_of hX hb cL_648 (xc_V (pc' := 651) (r := m) (as := []) (st := []) (lm_11_83) rfl rfl (Nat.le_of_ble_eq_true rfl) w2627 gm sh_42 (by decide) rfl (by decide) (u_240 (e := e8) (d := d8) w2627 gm (by omega) (by assumption) (by assumption) (by assumption) (by assumption) h2731 h2732) (fun R2733 T2734 H2735 p2736 => ?_))
    obtain ⟨e2737, w2739, f2740, z2741, e2738, b2742, p2743⟩ := p2736
    subst e2737
    subst e2738
    rcases p2743 with ⟨a2744, a2745, a2746, a2747⟩ | ⟨a2748, a2749, a2750, a2751⟩
    · show WL _ _ _ _ 651 [(4, vI i), (3, .ref o), (2, .ref m), (1, .ref x), (0, .ref 0)] [vI z2741] _ H2735
      refine wl_of hX hb cL_651 (rw_pop (pc' := 652) rfl rfl ?_)
      refine wl_of hX hb cL_652 (rw_goto (p1 := 1653) (by decide) ?_)
      have k2752 : H2735 x 9 = H2623 x 9 := (f2740 x 9 _ gx rfl)
      have k2753 : H2735 m 6 = H2623 m 6 := (f2740 m 6 _ gm rfl)
      have k2754 : H2735 x 11 = H2623 x 11 := (f2740 x 11 _ gx rfl)
      have k2755 : H2735 m 13 = H2623 m 13 := (f2740 m 13 _ gm rfl)
      have k2756 : H2735 x 8 = H2623 x 8 := (f2740 x 8 _ gx rfl)
      have k2757 : H2735 m 3 = H2623 m 3 := (f2740 m 3 _ gm rfl)
      have k2758 : H2735 x 0 = H x 0 := ((f2740 x 0 _ gx rfl).trans (f2628 x 0 _ gx rfl))
      have q2759 : H2735 x 0 = (tc : Int) := k2758.trans e0
      have k2760 : H2735 m 5 = H m 5 := ((f2740 m 5 _ gm rfl).trans (f2628 m 5 _ gm rfl))
      have q2761 : H2735 m 5 = (tm : Int) := k2760.trans em
      have k2762 : H2735 x 6 = H x 6 := ((f2740 x 6 _ gx rfl).trans (f2628 x 6 _ gx rfl))
      have q2763 : H2735 x 6 = (cu : Int) := k2762.trans ecu
      have k2764 : H2735 x 7 = H x 7 := ((f2740 x 7 _ gx rfl).trans (f2628 x 7 _ gx rfl))
      have q2765 : H2735 x 7 = (dr : Int) := k2764.trans edr
      have h2766 : CEN T H2735 ce8 e8 d8 := (CEN_fr w2627 gce8 f2740 rfl a2637)
      have h2767 : TP T H2735 tc B := (TP_fr w2627 gtc f2740 rfl (TP_fr hW gtc f2628 rfl htc))
      have h2768 : TM T H2735 tm B := (TM_fr w2627 gtm f2740 rfl (TM_fr hW gtm f2628 rfl htm))
      have h2769 : DD T H2735 cu  := (DD_fr w2627 gcu f2740 rfl (DD_fr hW gcu f2628 rfl hcu))
      have h2770 : DD T H2735 dr  := (DD_fr w2627 gdr f2740 rfl (DD_fr hW gdr f2628 rfl hdr))
      have h2771 : DE T H2735 cu  := (DE_fr w2627 gcu f2740 rfl (DE_fr hW gcu f2628 rfl hdec))
      have h2772 : DE T H2735 dr  := (DE_fr w2627 gdr f2740 rfl (DE_fr hW gdr f2628 rfl hded))
      have h2773 : SP T H2735 x C8 := (SP_fr w2627 gx f2740 rfl (SP_fr hW gx f2628 rfl hsp))
      have h2774 : CU T H2735 cu e8 d8 n8 := (CU_fr w2627 gcu f2740 rfl (CU_fr hW gcu f2628 rfl hcu8))
      have h2775 : CY T H2735 cu (d8 0 3) g8 (H cu 17) := (CY_fr w2627 gcu f2740 rfl (CY_fr hW gcu f2628 rfl h2616))
      have k2776 : H2735 x 3 = H x 3 := ((f2740 x 3 _ gx rfl).trans (f2628 x 3 _ gx rfl))
      have q2777 : H2735 x 3 = (ce8 : Int) := k2776.trans ece8
      have h2778 : HDR T H2735 ce8  := (HDR_fr w2627 gce8 f2740 rfl (HDR_fr hW gce8 f2628 rfl hhdr8))
      have h2779 : RY T H2735 m (d8 0 3) g8 (H m 32) := (RY_fr w2627 gm f2740 rfl (RY_fr hW gm f2628 rfl h2617))
      have h2780 : RB T H2735 m e8 d8 := (RB_fr w2627 gm f2740 rfl h2731)
      exact WL.loc hX (by simp) (next T H2735 ⟨⟨w2739, g0, gx, gm, go, by omega, by omega⟩, ⟨_, tc, tm, cu, dr, _, _, _, _, _, ce8, q2759, gtc, h2767, q2761, gtm, h2768, q2763, gcu, q2765, gdr, h2769, h2770, h2771, h2772, h2773, hC1, hC2, h2774, h2780, (h2775).1, (h2779).1, hE, hZ, (by omega), (by assumption), (by omega), (by first | assumption | exact SG_0), q2777, gce8, h2766, h2778, a2747, gm⟩, by omega, by omega⟩ (by omega) (by omega))
    · show WL _ _ _ _ 651 [(4, vI i), (3, .ref o), (2, .ref m), (1, .ref x), (0, .ref 0)] [vI z2741] _ H2735
      refine wl_of hX hb cL_651 (rw_pop (pc' := 652) rfl rfl ?_)
      refine wl_of hX hb cL_652 (rw_goto (p1 := 1653) (by decide) ?_)
      have k2781 : H2735 x 9 = H2623 x 9 := (f2740 x 9 _ gx rfl)
      have k2782 : H2735 m 6 = H2623 m 6 := (f2740 m 6 _ gm rfl)
      have k2783 : H2735 x 11 = H2623 x 11 := (f2740 x 11 _ gx rfl)
      have k2784 : H2735 m 13 = H2623 m 13 := (f2740 m 13 _ gm rfl)
      have k2785 : H2735 x 8 = H2623 x 8 := (f2740 x 8 _ gx rfl)
      have k2786 : H2735 m 3 = H2623 m 3 := (f2740 m 3 _ gm rfl)
      have k2787 : H2735 x 0 = H x 0 := ((f2740 x 0 _ gx rfl).trans (f2628 x 0 _ gx rfl))
      have q2788 : H2735 x 0 = (tc : Int) := k2787.trans e0
      have k2789 : H2735 m 5 = H m 5 := ((f2740 m 5 _ gm rfl).trans (f2628 m 5 _ gm rfl))
      have q2790 : H2735 m 5 = (tm : Int) := k2789.trans em
      have k2791 : H2735 x 6 = H x 6 := ((f2740 x 6 _ gx rfl).trans (f2628 x 6 _ gx rfl))
      have q2792 : H2735 x 6 = (cu : Int) := k2791.trans ecu
      have k2793 : H2735 x 7 = H x 7 := ((f2740 x 7 _ gx rfl).trans (f2628 x 7 _ gx rfl))
      have q2794 : H2735 x 7 = (dr : Int) := k2793.trans edr
      have h2795 : CEN T H2735 ce8 e8 d8 := (CEN_fr w2627 gce8 f2740 rfl a2637)
      have h2796 : TP T H2735 tc B := (TP_fr w2627 gtc f2740 rfl (TP_fr hW gtc f2628 rfl htc))
      have h2797 : TM T H2735 tm B := (TM_fr w2627 gtm f2740 rfl (TM_fr hW gtm f2628 rfl htm))
      have h2798 : DD T H2735 cu  := (DD_fr w2627 gcu f2740 rfl (DD_fr hW gcu f2628 rfl hcu))
      have h2799 : DD T H2735 dr  := (DD_fr w2627 gdr f2740 rfl (DD_fr hW gdr f2628 rfl hdr))
      have h2800 : DE T H2735 cu  := (DE_fr w2627 gcu f2740 rfl (DE_fr hW gcu f2628 rfl hdec))
      have h2801 : DE T H2735 dr  := (DE_fr w2627 gdr f2740 rfl (DE_fr hW gdr f2628 rfl hded))
      have h2802 : SP T H2735 x C8 := (SP_fr w2627 gx f2740 rfl (SP_fr hW gx f2628 rfl hsp))
      have h2803 : CU T H2735 cu e8 d8 n8 := (CU_fr w2627 gcu f2740 rfl (CU_fr hW gcu f2628 rfl hcu8))
      have h2804 : CY T H2735 cu (d8 0 3) g8 (H cu 17) := (CY_fr w2627 gcu f2740 rfl (CY_fr hW gcu f2628 rfl h2616))
      have k2805 : H2735 x 3 = H x 3 := ((f2740 x 3 _ gx rfl).trans (f2628 x 3 _ gx rfl))
      have q2806 : H2735 x 3 = (ce8 : Int) := k2805.trans ece8
      have h2807 : HDR T H2735 ce8  := (HDR_fr w2627 gce8 f2740 rfl (HDR_fr hW gce8 f2628 rfl hhdr8))
      have h2808 : RY T H2735 m (d8 0 3) g8 (H m 32) := (RY_fr w2627 gm f2740 rfl (RY_fr hW gm f2628 rfl h2617))
      have h2809 : RB T H2735 m e8 d8 := (RB_fr w2627 gm f2740 rfl h2731)
      exact WL.loc hX (by simp) (next T H2735 ⟨⟨w2739, g0, gx, gm, go, by omega, by omega⟩, ⟨_, tc, tm, cu, dr, _, _, _, _, _, ce8, q2788, gtc, h2796, q2790, gtm, h2797, q2792, gcu, q2794, gdr, h2798, h2799, h2800, h2801, h2802, hC1, hC2, h2803, h2809, (h2804).1, (h2808).1, hE, hZ, (by omega), (by assumption), (by omega), (by first | assumption | exact SG_0), q2806, gce8, h2795, h2807, a2751, gm⟩, by omega, by omega⟩ (by omega) (by omega))
set_option maxHeartbeats 4000000 in
theorem wl_c15 {kt : Nat → Option mc_E} {CB SB : Nat} {X : mc_S → Prop} {T : wq_T} {H : wq_H} {Len x m o : Nat} {i : Int} (hX : wlX kt CB SB X) (hb : T.2.1 ≤ CB ∧ T.2.2.1 ≤ SB) (hI : wlJ Len x m o T H) (hL : Len ≤ 3072) (hi : 0 ≤ i ∧ i + 6 ≤ Len) (hb2 : T.2.1 + 20 ≤ CB ∧ T.2.2.1 + 500 ≤ SB)  (next : ∀ T' H', wlJ Len x m o T' H' → T'.2.1 ≤ T.2.1 + 20 → T'.2.2.1 ≤ T.2.2.1 + 500 → WL kt CB SB X 1653 (wlL i x m o) [] T' H') : WL kt CB SB X 655 (wlL i x m o) [] T H := by
  obtain ⟨⟨hW, g0, gx, gm, go, hK, hr⟩, hXI, hY1, hY2⟩ := hI
  refine wl_of hX hb cL_655 (rw_aload_n (pc' := 656) (v := .ref x) rfl rfl rfl ?_)
  obtain ⟨B, tc, tm, cu, dr, C8, e8, d8, n8, g8, ce8, e0, gtc, htc, em, gtm, htm, ecu, gcu, edr, gdr, hcu, hdr, hdec, hded, hsp, hC1, hC2, hcu8, hrb8, hcg8, hmn8, hE, hZ, hn8, hXA, hV8, hSG, ece8, gce8, hcen8, hhdr8, hknn8, -⟩ := hXI
  have hN3 := RB_n3 hrb8
  have hE13 : ∀ h : Nat, h < 24 → 0 ≤ e8 13 h ∧ e8 13 h ≤ 100 := fun k hk => by
    obtain ⟨s, h1, h2, h3⟩ := hcu8.1.2.2.1
    exact ⟨(h3 k hk).1, (h3 k hk).2.1⟩
  have hXW := hXA.1
  have hXN := hXA.2
  have hE0 : e8 0 3 = d8 0 3 ∧ e8 0 0 = d8 0 0 := by
    have h := hE 0 (by decide)
    exact ⟨congrFun h 3, congrFun h 0⟩
  have u2810 := CU_k hcu8
  have h2811 : CY T H cu (d8 0 3) g8 (H cu 17) := ⟨hcg8, rfl⟩
  have h2812 : RY T H m (d8 0 3) g8 (H m 32) := ⟨hmn8, rfl⟩
  obtain ⟨t9, ht9⟩ : ∃ t : Int, t = H x 9 := ⟨_, rfl⟩
  obtain ⟨r2813, q2814, g2815⟩ := hW.ref gx (t' := 6) (n := 13) (j := 2) (p := 0) (q := 0) rfl (by decide) rfl
  refine wl_of hX hb cL_656 (xc_V (pc' := 659) (r := x) (as := []) (st := []) (lm_11_84) rfl rfl (Nat.le_of_ble_eq_true rfl) hW gx sh_1 (by decide) rfl (by decide) (u_92 (e := e8) (d := d8) (n := n8) hW gx ecu gcu q2814 g2815 ece8 gce8 (by assumption) (by assumption) (by omega) (by omega) (by omega) (by omega) hcu8 hcen8 hhdr8) (fun R2816 T2817 H2818 p2819 => ?_))
  obtain ⟨e2820, w2822, f2823, z2824, e2821, b2825, p2826⟩ := p2819
  subst e2820
  subst e2821
  rcases p2826 with ⟨a2827, a2828, a2829⟩ | ⟨a2830, a2831, a2832, a2833⟩
  · show WL _ _ _ _ 659 [(4, vI i), (3, .ref o), (2, .ref m), (1, .ref x), (0, .ref 0)] [vI z2824] _ H2818
    refine wl_of hX hb cL_659 (rw_pop (pc' := 660) rfl rfl ?_)
    refine wl_of hX hb cL_660 (rw_aload_n (pc' := 661) (v := .ref m) rfl rfl rfl ?_)
    have k2834 : wKI H2818 m = wKI H m := (wKI_fr hW gm f2823 rfl)
    have k2835 : H2818 x 9 = H x 9 := (f2823 x 9 _ gx rfl)
    have k2836 : H2818 m 6 = H m 6 := (f2823 m 6 _ gm rfl)
    have k2837 : H2818 x 11 = H x 11 := (f2823 x 11 _ gx rfl)
    have k2838 : H2818 m 13 = H m 13 := (f2823 m 13 _ gm rfl)
    have k2839 : H2818 x 8 = H x 8 := (f2823 x 8 _ gx rfl)
    have k2840 : H2818 m 3 = H m 3 := (f2823 m 3 _ gm rfl)
    have h2841 : RB T H2818 m e8 d8 := (RB_fr hW gm f2823 rfl hrb8)
    have h2842 : KNN T H2818 m e8 d8 := (KNN_fr hW gm f2823 rfl hknn8)
    refine wl_of hX hb cL_661 (xc_V (pc' := 664) (r := m) (as := []) (st := []) (lm_11_87) rfl rfl (Nat.le_of_ble_eq_true rfl) w2822 gm sh_42 (by decide) rfl (by decide) (u_244 (e := e8) (d := d8) w2822 gm (by omega) (by assumption) (by assumption) (by assumption) (by assumption) h2841 h2842) (fun R2843 T2844 H2845 p2846 => ?_))
    obtain ⟨e2847, w2849, f2850, z2851, e2848, b2852, p2853⟩ := p2846
    subst e2847
    subst e2848
    rcases p2853 with ⟨a2854, a2855, a2856, a2857⟩ | ⟨a2858, a2859, a2860, a2861, a2862⟩
    · show WL _ _ _ _ 664 [(4, vI i), (3, .ref o), (2, .ref m), (1, .ref x), (0, .ref 0)] [vI z2851] _ H2845
      refine wl_of hX hb cL_664 (rw_pop (pc' := 665) rfl rfl ?_)
      refine wl_of hX hb cL_665 (rw_goto (p1 := 1653) (by decide) ?_)
      have k2863 : H2845 x 9 = H2818 x 9 := (f2850 x 9 _ gx rfl)
      have k2864 : H2845 m 6 = H2818 m 6 := (f2850 m 6 _ gm rfl)
      have k2865 : H2845 x 11 = H2818 x 11 := (f2850 x 11 _ gx rfl)
      have k2866 : H2845 m 13 = H2818 m 13 := (f2850 m 13 _ gm rfl)
      have k2867 : H2845 x 8 = H2818 x 8 := (f2850 x 8 _ gx rfl)
      have k2868 : H2845 m 3 = H2818 m 3 := (f2850 m 3 _ gm rfl)
      have k2869 : H2845 x 0 = H x 0 := ((f2850 x 0 _ gx rfl).trans (f2823 x 0 _ gx rfl))
      have q2870 : H2845 x 0 = (tc : Int) := k2869.trans e0
      have k2871 : H2845 m 5 = H m 5 := ((f2850 m 5 _ gm rfl).trans (f2823 m 5 _ gm rfl))
      have q2872 : H2845 m 5 = (tm : Int) := k2871.trans em
      have k2873 : H2845 x 6 = H x 6 := ((f2850 x 6 _ gx rfl).trans (f2823 x 6 _ gx rfl))
      have q2874 : H2845 x 6 = (cu : Int) := k2873.trans ecu
      have k2875 : H2845 x 7 = H x 7 := ((f2850 x 7 _ gx rfl).trans (f2823 x 7 _ gx rfl))
      have q2876 : H2845 x 7 = (dr : Int) := k2875.trans edr
      have h2877 : CEN T H2845 ce8 e8 d8 := (CEN_fr w2822 gce8 f2850 rfl a2829)
      have h2878 : TP T H2845 tc B := (TP_fr w2822 gtc f2850 rfl (TP_fr hW gtc f2823 rfl htc))
      have h2879 : TM T H2845 tm B := (TM_fr w2822 gtm f2850 rfl (TM_fr hW gtm f2823 rfl htm))
      have h2880 : DD T H2845 cu  := (DD_fr w2822 gcu f2850 rfl (DD_fr hW gcu f2823 rfl hcu))
      have h2881 : DD T H2845 dr  := (DD_fr w2822 gdr f2850 rfl (DD_fr hW gdr f2823 rfl hdr))
      have h2882 : DE T H2845 cu  := (DE_fr w2822 gcu f2850 rfl (DE_fr hW gcu f2823 rfl hdec))
      have h2883 : DE T H2845 dr  := (DE_fr w2822 gdr f2850 rfl (DE_fr hW gdr f2823 rfl hded))
      have h2884 : SP T H2845 x C8 := (SP_fr w2822 gx f2850 rfl (SP_fr hW gx f2823 rfl hsp))
      have h2885 : CU T H2845 cu e8 d8 n8 := (CU_fr w2822 gcu f2850 rfl (CU_fr hW gcu f2823 rfl hcu8))
      have h2886 : CY T H2845 cu (d8 0 3) g8 (H cu 17) := (CY_fr w2822 gcu f2850 rfl (CY_fr hW gcu f2823 rfl h2811))
      have k2887 : H2845 x 3 = H x 3 := ((f2850 x 3 _ gx rfl).trans (f2823 x 3 _ gx rfl))
      have q2888 : H2845 x 3 = (ce8 : Int) := k2887.trans ece8
      have h2889 : HDR T H2845 ce8  := (HDR_fr w2822 gce8 f2850 rfl (HDR_fr hW gce8 f2823 rfl hhdr8))
      have h2890 : RY T H2845 m (d8 0 3) g8 (H m 32) := (RY_fr w2822 gm f2850 rfl (RY_fr hW gm f2823 rfl h2812))
      have h2891 : RB T H2845 m e8 d8 := (RB_fr w2822 gm f2850 rfl h2841)
      exact WL.loc hX (by simp) (next T H2845 ⟨⟨w2849, g0, gx, gm, go, by omega, by omega⟩, ⟨_, tc, tm, cu, dr, _, _, _, _, _, ce8, q2870, gtc, h2878, q2872, gtm, h2879, q2874, gcu, q2876, gdr, h2880, h2881, h2882, h2883, h2884, hC1, hC2, h2885, h2891, (h2886).1, (h2890).1, hE, hZ, (by omega), (by assumption), (by omega), (by first | assumption | exact SG_0), q2888, gce8, h2877, h2889, a2857, gm⟩, by omega, by omega⟩ (by omega) (by omega))
    · show WL _ _ _ _ 664 [(4, vI i), (3, .ref o), (2, .ref m), (1, .ref x), (0, .ref 0)] [vI z2851] _ H2845
      refine wl_of hX hb cL_664 (rw_pop (pc' := 665) rfl rfl ?_)
      refine wl_of hX hb cL_665 (rw_goto (p1 := 1653) (by decide) ?_)
      have k2892 : H2845 x 9 = H2818 x 9 := (f2850 x 9 _ gx rfl)
      have k2893 : H2845 m 6 = H2818 m 6 := (f2850 m 6 _ gm rfl)
      have k2894 : H2845 x 11 = H2818 x 11 := (f2850 x 11 _ gx rfl)
      have k2895 : H2845 m 13 = H2818 m 13 := (f2850 m 13 _ gm rfl)
      have k2896 : H2845 x 8 = H2818 x 8 := (f2850 x 8 _ gx rfl)
      have k2897 : H2845 m 3 = H2818 m 3 := (f2850 m 3 _ gm rfl)
      have k2898 : H2845 x 0 = H x 0 := ((f2850 x 0 _ gx rfl).trans (f2823 x 0 _ gx rfl))
      have q2899 : H2845 x 0 = (tc : Int) := k2898.trans e0
      have k2900 : H2845 m 5 = H m 5 := ((f2850 m 5 _ gm rfl).trans (f2823 m 5 _ gm rfl))
      have q2901 : H2845 m 5 = (tm : Int) := k2900.trans em
      have k2902 : H2845 x 6 = H x 6 := ((f2850 x 6 _ gx rfl).trans (f2823 x 6 _ gx rfl))
      have q2903 : H2845 x 6 = (cu : Int) := k2902.trans ecu
      have k2904 : H2845 x 7 = H x 7 := ((f2850 x 7 _ gx rfl).trans (f2823 x 7 _ gx rfl))
      have q2905 : H2845 x 7 = (dr : Int) := k2904.trans edr
      have h2906 : CEN T H2845 ce8 e8 d8 := (CEN_fr w2822 gce8 f2850 rfl a2829)
      have h2907 : TP T H2845 tc B := (TP_fr w2822 gtc f2850 rfl (TP_fr hW gtc f2823 rfl htc))
      have h2908 : TM T H2845 tm B := (TM_fr w2822 gtm f2850 rfl (TM_fr hW gtm f2823 rfl htm))
      have h2909 : DD T H2845 cu  := (DD_fr w2822 gcu f2850 rfl (DD_fr hW gcu f2823 rfl hcu))
      have h2910 : DD T H2845 dr  := (DD_fr w2822 gdr f2850 rfl (DD_fr hW gdr f2823 rfl hdr))
      have h2911 : DE T H2845 cu  := (DE_fr w2822 gcu f2850 rfl (DE_fr hW gcu f2823 rfl hdec))
      have h2912 : DE T H2845 dr  := (DE_fr w2822 gdr f2850 rfl (DE_fr hW gdr f2823 rfl hded))
      have h2913 : SP T H2845 x C8 := (SP_fr w2822 gx f2850 rfl (SP_fr hW gx f2823 rfl hsp))
      have h2914 : CU T H2845 cu e8 d8 n8 := (CU_fr w2822 gcu f2850 rfl (CU_fr hW gcu f2823 rfl hcu8))
      have h2915 : CY T H2845 cu (d8 0 3) g8 (H cu 17) := (CY_fr w2822 gcu f2850 rfl (CY_fr hW gcu f2823 rfl h2811))
      have k2916 : H2845 x 3 = H x 3 := ((f2850 x 3 _ gx rfl).trans (f2823 x 3 _ gx rfl))
      have q2917 : H2845 x 3 = (ce8 : Int) := k2916.trans ece8
      have h2918 : HDR T H2845 ce8  := (HDR_fr w2822 gce8 f2850 rfl (HDR_fr hW gce8 f2823 rfl hhdr8))
      have h2919 : RY T H2845 m (d8 0 3) g8 (H m 32) := (RY_fr w2822 gm f2850 rfl (RY_fr hW gm f2823 rfl h2812))
      have h2920 : RB T H2845 m e8 d8 := (RB_fr w2822 gm f2850 rfl h2841)
      exact WL.loc hX (by simp) (next T H2845 ⟨⟨w2849, g0, gx, gm, go, by omega, by omega⟩, ⟨_, tc, tm, cu, dr, _, _, _, _, _, ce8, q2899, gtc, h2907, q2901, gtm, h2908, q2903, gcu, q2905, gdr, h2909, h2910, h2911, h2912, h2913, hC1, hC2, h2914, h2920, (h2915).1, (h2919).1, hE, hZ, (by omega), (by assumption), (by omega), (by first | assumption | exact SG_0), q2917, gce8, h2906, h2918, a2862, gm⟩, by omega, by omega⟩ (by omega) (by omega))
  · show WL _ _ _ _ 659 [(4, vI i), (3, .ref o), (2, .ref m), (1, .ref x), (0, .ref 0)] [vI z2824] _ H2818
    refine wl_of hX hb cL_659 (rw_pop (pc' := 660) rfl rfl ?_)
    refine wl_of hX hb cL_660 (rw_aload_n (pc' := 661) (v := .ref m) rfl rfl rfl ?_)
    have k2921 : wKI H2818 m = wKI H m := (wKI_fr hW gm f2823 rfl)
    have k2922 : H2818 x 9 = H x 9 := (f2823 x 9 _ gx rfl)
    have k2923 : H2818 m 6 = H m 6 := (f2823 m 6 _ gm rfl)
    have k2924 : H2818 x 11 = H x 11 := (f2823 x 11 _ gx rfl)
    have k2925 : H2818 m 13 = H m 13 := (f2823 m 13 _ gm rfl)
    have k2926 : H2818 x 8 = H x 8 := (f2823 x 8 _ gx rfl)
    have k2927 : H2818 m 3 = H m 3 := (f2823 m 3 _ gm rfl)
    have h2928 : RB T H2818 m e8 d8 := (RB_fr hW gm f2823 rfl hrb8)
    have h2929 : KNN T H2818 m e8 d8 := (KNN_fr hW gm f2823 rfl hknn8)
    refine wl_of hX hb cL_661 (xc_V (pc' := 664) (r := m) (as := []) (st := []) (lm_11_87) rfl rfl (Nat.le_of_ble_eq_true rfl) w2822 gm sh_42 (by decide) rfl (by decide) (u_244 (e := e8) (d := d8) w2822 gm (by omega) (by assumption) (by assumption) (by assumption) (by assumption) h2928 h2929) (fun R2930 T2931 H2932 p2933 => ?_))
    obtain ⟨e2934, w2936, f2937, z2938, e2935, b2939, p2940⟩ := p2933
    subst e2934
    subst e2935
    rcases p2940 with ⟨a2941, a2942, a2943, a2944⟩ | ⟨a2945, a2946, a2947, a2948, a2949⟩
    · show WL _ _ _ _ 664 [(4, vI i), (3, .ref o), (2, .ref m), (1, .ref x), (0, .ref 0)] [vI z2938] _ H2932
      refine wl_of hX hb cL_664 (rw_pop (pc' := 665) rfl rfl ?_)
      refine wl_of hX hb cL_665 (rw_goto (p1 := 1653) (by decide) ?_)
      have k2950 : H2932 x 9 = H2818 x 9 := (f2937 x 9 _ gx rfl)
      have k2951 : H2932 m 6 = H2818 m 6 := (f2937 m 6 _ gm rfl)
      have k2952 : H2932 x 11 = H2818 x 11 := (f2937 x 11 _ gx rfl)
      have k2953 : H2932 m 13 = H2818 m 13 := (f2937 m 13 _ gm rfl)
      have k2954 : H2932 x 8 = H2818 x 8 := (f2937 x 8 _ gx rfl)
      have k2955 : H2932 m 3 = H2818 m 3 := (f2937 m 3 _ gm rfl)
      have k2956 : H2932 x 0 = H x 0 := ((f2937 x 0 _ gx rfl).trans (f2823 x 0 _ gx rfl))
      have q2957 : H2932 x 0 = (tc : Int) := k2956.trans e0
      have k2958 : H2932 m 5 = H m 5 := ((f2937 m 5 _ gm rfl).trans (f2823 m 5 _ gm rfl))
      have q2959 : H2932 m 5 = (tm : Int) := k2958.trans em
      have k2960 : H2932 x 6 = H x 6 := ((f2937 x 6 _ gx rfl).trans (f2823 x 6 _ gx rfl))
      have q2961 : H2932 x 6 = (cu : Int) := k2960.trans ecu
      have k2962 : H2932 x 7 = H x 7 := ((f2937 x 7 _ gx rfl).trans (f2823 x 7 _ gx rfl))
      have q2963 : H2932 x 7 = (dr : Int) := k2962.trans edr
      have h2964 : CEN T H2932 ce8 e8 d8 := (CEN_fr w2822 gce8 f2937 rfl a2833)
      have h2965 : TP T H2932 tc B := (TP_fr w2822 gtc f2937 rfl (TP_fr hW gtc f2823 rfl htc))
      have h2966 : TM T H2932 tm B := (TM_fr w2822 gtm f2937 rfl (TM_fr hW gtm f2823 rfl htm))
      have h2967 : DD T H2932 cu  := (DD_fr w2822 gcu f2937 rfl (DD_fr hW gcu f2823 rfl hcu))
      have h2968 : DD T H2932 dr  := (DD_fr w2822 gdr f2937 rfl (DD_fr hW gdr f2823 rfl hdr))
      have h2969 : DE T H2932 cu  := (DE_fr w2822 gcu f2937 rfl (DE_fr hW gcu f2823 rfl hdec))
      have h2970 : DE T H2932 dr  := (DE_fr w2822 gdr f2937 rfl (DE_fr hW gdr f2823 rfl hded))
      have h2971 : SP T H2932 x C8 := (SP_fr w2822 gx f2937 rfl (SP_fr hW gx f2823 rfl hsp))
      have h2972 : CU T H2932 cu e8 d8 n8 := (CU_fr w2822 gcu f2937 rfl (CU_fr hW gcu f2823 rfl hcu8))
      have h2973 : CY T H2932 cu (d8 0 3) g8 (H cu 17) := (CY_fr w2822 gcu f2937 rfl (CY_fr hW gcu f2823 rfl h2811))
      have k2974 : H2932 x 3 = H x 3 := ((f2937 x 3 _ gx rfl).trans (f2823 x 3 _ gx rfl))
      have q2975 : H2932 x 3 = (ce8 : Int) := k2974.trans ece8
      have h2976 : HDR T H2932 ce8  := (HDR_fr w2822 gce8 f2937 rfl (HDR_fr hW gce8 f2823 rfl hhdr8))
      have h2977 : RY T H2932 m (d8 0 3) g8 (H m 32) := (RY_fr w2822 gm f2937 rfl (RY_fr hW gm f2823 rfl h2812))
      have h2978 : RB T H2932 m e8 d8 := (RB_fr w2822 gm f2937 rfl h2928)
      exact WL.loc hX (by simp) (next T H2932 ⟨⟨w2936, g0, gx, gm, go, by omega, by omega⟩, ⟨_, tc, tm, cu, dr, _, _, _, _, _, ce8, q2957, gtc, h2965, q2959, gtm, h2966, q2961, gcu, q2963, gdr, h2967, h2968, h2969, h2970, h2971, hC1, hC2, h2972, h2978, (h2973).1, (h2977).1, hE, hZ, (by omega), (by assumption), (by omega), (by first | assumption | exact SG_0), q2975, gce8, h2964, h2976, a2944, gm⟩, by omega, by omega⟩ (by omega) (by omega))
    · show WL _ _ _ _ 664 [(4, vI i), (3, .ref o), (2, .ref m), (1, .ref x), (0, .ref 0)] [vI z2938] _ H2932
      refine wl_of hX hb cL_664 (rw_pop (pc' := 665) rfl rfl ?_)
      refine wl_of hX hb cL_665 (rw_goto (p1 := 1653) (by decide) ?_)
      have k2979 : H2932 x 9 = H2818 x 9 := (f2937 x 9 _ gx rfl)
      have k2980 : H2932 m 6 = H2818 m 6 := (f2937 m 6 _ gm rfl)
      have k2981 : H2932 x 11 = H2818 x 11 := (f2937 x 11 _ gx rfl)
      have k2982 : H2932 m 13 = H2818 m 13 := (f2937 m 13 _ gm rfl)
      have k2983 : H2932 x 8 = H2818 x 8 := (f2937 x 8 _ gx rfl)
      have k2984 : H2932 m 3 = H2818 m 3 := (f2937 m 3 _ gm rfl)
      have k2985 : H2932 x 0 = H x 0 := ((f2937 x 0 _ gx rfl).trans (f2823 x 0 _ gx rfl))
      have q2986 : H2932 x 0 = (tc : Int) := k2985.trans e0
      have k2987 : H2932 m 5 = H m 5 := ((f2937 m 5 _ gm rfl).trans (f2823 m 5 _ gm rfl))
      have q2988 : H2932 m 5 = (tm : Int) := k2987.trans em
      have k2989 : H2932 x 6 = H x 6 := ((f2937 x 6 _ gx rfl).trans (f2823 x 6 _ gx rfl))
      have q2990 : H2932 x 6 = (cu : Int) := k2989.trans ecu
      have k2991 : H2932 x 7 = H x 7 := ((f2937 x 7 _ gx rfl).trans (f2823 x 7 _ gx rfl))
      have q2992 : H2932 x 7 = (dr : Int) := k2991.trans edr
      have h2993 : CEN T H2932 ce8 e8 d8 := (CEN_fr w2822 gce8 f2937 rfl a2833)
      have h2994 : TP T H2932 tc B := (TP_fr w2822 gtc f2937 rfl (TP_fr hW gtc f2823 rfl htc))
      have h2995 : TM T H2932 tm B := (TM_fr w2822 gtm f2937 rfl (TM_fr hW gtm f2823 rfl htm))
      have h2996 : DD T H2932 cu  := (DD_fr w2822 gcu f2937 rfl (DD_fr hW gcu f2823 rfl hcu))
      have h2997 : DD T H2932 dr  := (DD_fr w2822 gdr f2937 rfl (DD_fr hW gdr f2823 rfl hdr))
      have h2998 : DE T H2932 cu  := (DE_fr w2822 gcu f2937 rfl (DE_fr hW gcu f2823 rfl hdec))
      have h2999 : DE T H2932 dr  := (DE_fr w2822 gdr f2937 rfl (DE_fr hW gdr f2823 rfl hded))
      have h3000 : SP T H2932 x C8 := (SP_fr w2822 gx f2937 rfl (SP_fr hW gx f2823 rfl hsp))
      have h3001 : CU T H2932 cu e8 d8 n8 := (CU_fr w2822 gcu f2937 rfl (CU_fr hW gcu f2823 rfl hcu8))
      have h3002 : CY T H2932 cu (d8 0 3) g8 (H cu 17) := (CY_fr w2822 gcu f2937 rfl (CY_fr hW gcu f2823 rfl h2811))
      have k3003 : H2932 x 3 = H x 3 := ((f2937 x 3 _ gx rfl).trans (f2823 x 3 _ gx rfl))
      have q3004 : H2932 x 3 = (ce8 : Int) := k3003.trans ece8
      have h3005 : HDR T H2932 ce8  := (HDR_fr w2822 gce8 f2937 rfl (HDR_fr hW gce8 f2823 rfl hhdr8))
      have h3006 : RY T H2932 m (d8 0 3) g8 (H m 32) := (RY_fr w2822 gm f2937 rfl (RY_fr hW gm f2823 rfl h2812))
      have h3007 : RB T H2932 m e8 d8 := (RB_fr w2822 gm f2937 rfl h2928)
      exact WL.loc hX (by simp) (next T H2932 ⟨⟨w2936, g0, gx, gm, go, by omega, by omega⟩, ⟨_, tc, tm, cu, dr, _, _, _, _, _, ce8, q2986, gtc, h2994, q2988, gtm, h2995, q2990, gcu, q2992, gdr, h2996, h2997, h2998, h2999, h3000, hC1, hC2, h3001, h3007, (h3002).1, (h3006).1, hE, hZ, (by omega), (by assumption), (by omega), (by first | assumption | exact SG_0), q3004, gce8, h2993, h3005, a2949, gm⟩, by omega, by omega⟩ (by omega) (by omega))
