/-! what methods do (own work, written by wip/gen3/sx3.py) -/
/-! StrikeAwakeModel.weighs(II)J  -/
abbrev uq_247 (r0 : Nat) (a1 : Int) (a2 : Int) (pp : Nat) (e : xD) (d : xD) (T : wq_T) (H : wq_H) : Option Value → wq_T → wq_H → Prop := fun r T' H' => T = T' ∧ WT T H' ∧ wfr [(51, 999)] T H H' ∧ ∃ z : Int, some (vL z) = r ∧ (0 ≤ z ∧ z ≤ 20000000000) ∧ (((z = wsm (xwf e d) (fun n => if a1 = -1 ∨ hb (xwb d (xlot d ((n : Nat) : Int)) (a1).toNat) (a2).toNat = 1 then xlW d n else 0) (xlots d).toNat)))
set_option maxHeartbeats 4000000 in
theorem u_247 {kt : Nat → Option mc_E} {T : wq_T} {H : wq_H} {r0 : Nat} {a1 : Int} {a2 : Int} {pp : Nat} {e : xD} {d : xD} (hW : WT T H) (g0 : T.2.2.2 r0 = some 42) (i1 : (-1) ≤ a1 ∧ a1 ≤ 5) (i2 : 0 ≤ a2 ∧ a2 ≤ 23) (qpp : H r0 3 = (pp : Int)) (gpp : T.2.2.2 pp = some 54) (p0 : XW d) (p1 : a1 < d 0 3) (p2 : 0 < xlots d ∨ xcn (xwf e d) (xlots d).toNat ≤ 0) (p3 : xlots d ≤ 20000) (hRB_r0 : RB T H r0 e d) (hKNB_r0 : KNB T H r0 e d (xlots d).toNat) : wpc kt 3 247 [.ref r0, vI a1, vI a2] T H (uq_247 r0 a1 a2 pp e d T H) := by
  refine wp_enter e247 (Nat.le_of_ble_eq_true rfl) rfl ?_
  have f0 : wfr [(51, 999)] T H H := wfr.rf
  show wp _ _ 247 0 [(0, .ref r0), (1, vI a1), (2, vI a2)] [] _ H _
  have b1687 : 0 ≤ H r0 29 ∧ H r0 29 ≤ 20000 := hW.box g0 (n := 33) rfl (by decide) rfl
  have h1688 : KL T H r0 (xwf e d) (xlots d).toNat := hKNB_r0.2
  have _xw := (by assumption : XW d)
  have _xc := _xw.2.1
  unfold XC at _xc
  have _n3 : H r0 3 ≠ -1 := by omega
  have _k := RP_k (RB_at hRB_r0 qpp)
  have _kb := hKNB_r0.1
  have _lm := RB_lm hRB_r0
  have _nb := xcn_b (f := xwf e d) (xlots d).toNat
  have _ar := RB_ar hRB_r0 (by omega)
  have _pk := _ar.1
  have h1689 : LB25 T H r0 (xwk d) (xsq d) := _ar.2.2.2.2.2.2.2
  refine wp_of e247 c247_0 (rw_lconst (pc' := 1) (z := 0) rfl rfl ?_)
  refine wp_of e247 c247_1 (rw_lstore_n (pc' := 2) (z := 0) (L' := [(3, vL 0), (0, .ref r0), (1, vI a1), (2, vI a2)]) rfl rfl rfl ?_)
  refine wp_of e247 c247_2 (rw_iconst (pc' := 3) rfl ?_)
  refine wp_of e247 c247_3 (rw_istore (pc' := 5) (z := 0) (L' := [(5, vI 0), (3, vL 0), (0, .ref r0), (1, vI a1), (2, vI a2)]) rfl rfl rfl ?_)
  have lp2298 : ∀ (n2299 : Nat) (v2301 : Int) (v2302 : Int) (H2303 : wq_H) (u2304 : Nat), WT T H2303 → wfr [(51, 999)] T H H2303 → (0 ≤ v2301 ∧ v2301 ≤ 20000) → (0 ≤ v2302 ∧ v2302 ≤ 20000000000) → KL T H2303 r0 (xwf e d) (xlots d).toNat → (v2301 ≤ H2303 r0 29) → (u2304 ≤ (xlots d).toNat) → (xcn (xwf e d) u2304 = v2301) → (v2302 ≤ 1000000 * v2301) → (v2302 = wsm (xwf e d) (fun n => if a1 = -1 ∨ hb (xwb d (xlot d ((n : Nat) : Int)) (a1).toNat) (a2).toNat = 1 then xlW d n else 0) u2304) → (20000 - v2301).toNat = n2299 → wp kt 2 247 5 [(5, vI v2301), (3, vL v2302), (0, .ref r0), (1, vI a1), (2, vI a2)] [] T H2303 (uq_247 r0 a1 a2 pp e d T H) := by
    intro n2299
    induction n2299 using Nat.strongRecOn with
    | _ n2299 ih2300 =>
      intro v2301 v2302 H2303 u2304 w2305 f2306 b2307 b2308 h2310 x2311 x2312 x2313 x2314 x2315 m2309
      have f2316 := f0.tr f2306 rfl
      have k2317 : H2303 r0 29 = H r0 29 := (f2306 r0 29 _ g0 rfl)
      refine wp_of e247 c247_5 (rw_iload (pc' := 7) (z := v2301) rfl rfl ?_)
      refine wp_of e247 c247_7 (rw_aload_n (pc' := 8) (v := .ref r0) rfl rfl rfl ?_)
      refine wp_of e247 c247_8 (xg_I (pc' := 11) lf_9_422 w2305 g0 sh_42 (by decide) (by decide) ty_42_29 rfl rfl (fun b2318 b2319 => ?_))
      refine wp_of e247 c247_11 (rw_icmp_ge (p1 := 66) (p2 := 14) (by decide) rfl ⟨by omega, by omega⟩ ⟨by omega, by omega⟩ (fun c2320 => ?_) (fun c2320 => ?_))
      · refine wp_of e247 c247_66 (rw_lload_n (pc' := 67) (z := v2302) rfl rfl ?_)
        exact wp_lreturn e247 c247_67 rfl ⟨rfl, w2305, f2316, v2302, rfl, ⟨by omega, by omega⟩, (by
          show _ = wsm (xwf e d) (fun n => if a1 = -1 ∨ hb (xwb d (xlot d ((n : Nat) : Int)) (a1).toNat) (a2).toNat = 1 then xlW d n else 0) (xlots d).toNat
          rw [wsm_end (u := u2304) (by omega) (by omega)]
          assumption)⟩
      · obtain ⟨h9, _a, _b, _c, _e, _f⟩ := xcn_nx (f := xwf e d) (u := u2304) (xlots d).toNat (by omega) (by omega)
        have _n9 : xcn (xwf e d) (h9 + 1) = xcn (xwf e d) h9 + 1 := by
          show xcn (xwf e d) h9 + (if xwf e d h9 > 0 then 1 else 0) = _
          rw [if_pos _c]
        refine wp_of e247 c247_14 (rw_aload_n (pc' := 15) (v := .ref r0) rfl rfl rfl ?_)
        refine wp_of e247 c247_15 (rw_aload_n (pc' := 16) (v := .ref r0) rfl rfl rfl ?_)
        refine wp_of e247 c247_16 (xg_R (pc' := 19) lf_9_42 w2305 g0 sh_42 (by decide) (by decide) ty_42_30 rfl rfl (fun r2321 q2322 g2323 => ?_))
        refine wp_of e247 c247_19 (rw_iload (pc' := 21) (z := v2301) rfl rfl ?_)
        refine wp_of e247 c247_21 (xa_I (so := 0) (pc' := 22) w2305 g2323 sh_52 (by decide) (ty_52 _) (by omega) (by omega) rfl (fun b2324 b2325 => ?_))
        have _kl := KL_at h2310 q2322 (n := h9) (s := (v2301).toNat) (by omega) _c (by omega)
        have _t9 : H2303 r2321 (v2301.toNat) = ((h9 : Nat) : Int) := by omega
        have _slw : SL d (xlot d ((h9 : Nat) : Int)) := SL_lot _xw.1 (by omega) (by omega)
        have k2326 : H2303 r0 3 = H r0 3 := (f2306 r0 3 _ g0 rfl)
        have q2327 : H2303 r0 3 = (pp : Int) := k2326.trans qpp
        have k2328 : wLM H2303 r0 = wLM H r0 := (wLM_fr hW g0 f2306 rfl)
        have h2329 : RB T H2303 r0 e d := (RB_fr hW g0 f2306 rfl hRB_r0)
        refine wp_of e247 c247_22 (xc_V (pc' := 25) (r := r0) (as := [vI (H2303 r2321 (v2301.toNat))]) (st := []) (lm_9_425) rfl rfl (Nat.le_of_ble_eq_true rfl) w2305 g0 sh_42 (by decide) rfl (by decide) (u_243 (e := e) (d := d) w2305 g0 ⟨by omega, by omega⟩ q2327 gpp (by omega) h2329) (fun R2330 T2331 H2332 p2333 => ?_))
        obtain ⟨e2334, w2336, f2337, e2335, p2338⟩ := p2333
        subst e2334
        subst e2335
        have f2340 := f2316.tr f2337 rfl
        have f2341 := f2306.tr f2337 rfl
        show wp _ _ 247 25 [(5, vI v2301), (3, vL v2302), (0, .ref r0), (1, vI a1), (2, vI a2)] [] _ H2332 _
        have h2342 : LQ27 T H2332 r0 0 (d 0 3) (xlot d ((h9 : Nat) : Int)) := by rw [← _t9]; exact p2338
        refine wp_of e247 c247_25 (rw_iload_n (pc' := 26) (z := a1) rfl rfl ?_)
        refine wp_of e247 c247_26 (rw_iconst (pc' := 27) rfl ?_)
        refine wp_of e247 c247_27 (rw_icmp_eq (p1 := 53) (p2 := 30) (by decide) rfl ⟨by omega, by omega⟩ ⟨by omega, by omega⟩ (fun c2343 => ?_) (fun c2343 => ?_))
        · refine wp_of e247 c247_53 (rw_lload_n (pc' := 54) (z := v2302) rfl rfl ?_)
          refine wp_of e247 c247_54 (rw_aload_n (pc' := 55) (v := .ref r0) rfl rfl rfl ?_)
          have k2344 : H2332 r0 3 = H2303 r0 3 := (f2337 r0 3 _ g0 rfl)
          have q2345 : H2332 r0 3 = (pp : Int) := k2344.trans q2327
          have h2346 : RB T H2332 r0 e d := (RB_fr w2305 g0 f2337 rfl h2329)
          refine wp_of e247 c247_55 (xc_V (pc' := 58) (r := r0) (as := []) (st := [vL v2302]) (lm_9_437) rfl rfl (Nat.le_of_ble_eq_true rfl) w2336 g0 sh_42 (by decide) rfl (by decide) (u_248 (e := e) (d := d) (g := ((xlot d ((h9 : Nat) : Int)))) w2336 g0 q2345 gpp (by assumption) (by assumption) h2346 h2342) (fun R2347 T2348 H2349 p2350 => ?_))
          obtain ⟨e2351, e2353, z2354, e2352, b2355, p2356⟩ := p2350
          subst e2351
          subst e2352
          subst e2353
          show wp _ _ 247 58 [(5, vI v2301), (3, vL v2302), (0, .ref r0), (1, vI a1), (2, vI a2)] [vL z2354, vL v2302] _ H2332 _
          refine wp_of e247 c247_58 (rw_ladd (pc' := 59) rfl ?_)
          refine wp_of e247 c247_59 (rw_lstore_n (pc' := 60) (z := v2302 + z2354) (L' := [(3, vL (v2302 + z2354)), (5, vI v2301), (0, .ref r0), (1, vI a1), (2, vI a2)]) rfl rfl rfl ?_)
          have _gp : wsm (xwf e d) (fun n => if a1 = -1 ∨ hb (xwb d (xlot d ((n : Nat) : Int)) (a1).toNat) (a2).toNat = 1 then xlW d n else 0) h9 = v2302 := by
            rw [wsm_gap _a _f]
            exact (‹v2302 = wsm (xwf e d) (fun n => if a1 = -1 ∨ hb (xwb d (xlot d ((n : Nat) : Int)) (a1).toNat) (a2).toNat = 1 then xlW d n else 0) u2304›).symm
          have _q : (v2302 + z2354) = wsm (xwf e d) (fun n => if a1 = -1 ∨ hb (xwb d (xlot d ((n : Nat) : Int)) (a1).toNat) (a2).toNat = 1 then xlW d n else 0) (h9 + 1) := by
            rw [wsm_y _c, _gp]
            have _lW : xlW d h9 = xlw d (xlot d ((h9 : Nat) : Int)) (d 0 3).toNat := rfl
            have _lb := @xlW_b d h9 (by omega)
            show (v2302 + z2354) = v2302 + (if a1 = -1 ∨ hb (xwb d (xlot d ((h9 : Nat) : Int)) (a1).toNat) (a2).toNat = 1 then xlW d h9 else 0)
            first
            | (rw [if_pos (by first | (left; omega) | (right; omega))]; omega)
            | (rw [if_neg (fun c9 => by rcases c9 with c9 | c9 <;> omega)]; omega)
          refine wp_of e247 c247_60 (rw_iinc (pc' := 63) (z := v2301) (L' := [(5, vI (v2301 + 1)), (3, vL (v2302 + z2354)), (0, .ref r0), (1, vI a1), (2, vI a2)]) rfl rfl rfl rfl ?_)
          refine wp_of e247 c247_63 (rw_goto (p1 := 5) (by decide) ?_)
          have k2358 : H2332 r0 29 = H2303 r0 29 := (f2337 r0 29 _ g0 rfl)
          have h2359 : KL T H2332 r0 (xwf e d) (xlots d).toNat := (KL_fr w2305 g0 f2337 rfl h2310)
          exact wp_lc (ks := [5, 3, 0, 1, 2]) (wl_c rfl (wl_c rfl (wl_c rfl (wl_c rfl (wl_c rfl wl_n))))) rfl (by decide) (ih2300 _ (by omega) (v2301 + 1) (v2302 + z2354) H2332 ((h9 + 1)) w2336 f2341 ⟨by omega, by omega⟩ ⟨by omega, by omega⟩ h2359 (by omega) (by omega) (by omega) (by omega) (_q) rfl)
        · refine wp_of e247 c247_30 (rw_aload_n (pc' := 31) (v := .ref r0) rfl rfl rfl ?_)
          refine wp_of e247 c247_31 (xg_R (pc' := 34) lf_9_33 w2336 g0 sh_42 (by decide) (by decide) ty_42_25 rfl rfl (fun r2360 q2361 g2362 => ?_))
          refine wp_of e247 c247_34 (rw_bipush (pc' := 36) (z := 40) rfl (by decide) ?_)
          refine wp_of e247 c247_36 (rw_iload_n (pc' := 37) (z := a1) rfl rfl ?_)
          have _sx := _slw (a1).toNat (by omega)
          refine wp_of e247 c247_37 (rw_imul (pc' := 38) rfl ?_)
          refine wp_of e247 c247_38 (rw_aload_n (pc' := 39) (v := .ref r0) rfl rfl rfl ?_)
          refine wp_of e247 c247_39 (xg_R (pc' := 42) lf_9_39 w2336 g0 sh_42 (by decide) (by decide) ty_42_27 rfl rfl (fun r2363 q2364 g2365 => ?_))
          refine wp_of e247 c247_42 (rw_iload_n (pc' := 43) (z := a1) rfl rfl ?_)
          refine wp_of e247 c247_43 (xa_I (so := 0) (pc' := 44) w2336 g2365 sh_51 (by decide) (ty_51 _) (by omega) (by omega) rfl (fun b2366 b2367 => ?_))
          have := LR_at h2342 q2364 (k := (a1.toNat)) (by omega) (by omega)
          refine wp_of e247 c247_44 (rw_iadd (pc' := 45) rfl ?_)
          refine wp_of e247 c247_45 (xa_I (so := 0) (pc' := 46) w2336 g2362 sh_49 (by decide) (ty_49 _) (by omega) (by omega) rfl (fun b2368 b2369 => ?_))
          have h2370 : LB25 T H2332 r0 (xwk d) (xsq d) := (LB25_fr w2305 g0 f2337 rfl (LB25_fr hW g0 f2306 rfl h1689))
          have := LB_x h2370 q2361 (k := (a1).toNat) (i := (xlot d ((h9 : Nat) : Int) (a1).toNat).toNat) (s := (((40 * a1) + (H2332 r2363 (a1.toNat))).toNat)) (by omega) (by omega) (by omega) _pk (by omega)
          have _x : xwk d (a1).toNat ((xsp d (a1).toNat).getD (xlot d ((h9 : Nat) : Int) (a1).toNat).toNat (0, 0)) = xwb d (xlot d ((h9 : Nat) : Int)) (a1).toNat := rfl
          have _hv := hb_and (b := xwb d (xlot d ((h9 : Nat) : Int)) (a1).toNat) (h := (a2).toNat) (by have := @xwb_b d (xlot d ((h9 : Nat) : Int)) (a1).toNat; omega) (by omega)
          rw [Int.toNat_of_nonneg (by omega : 0 ≤ a2), ← (show H2332 r2360 (((40 * a1) + (H2332 r2363 (a1.toNat))).toNat) = xwb d (xlot d ((h9 : Nat) : Int)) (a1).toNat by omega)] at _hv
          have _hw : hb (xwb d (xlot d ((h9 : Nat) : Int)) (a1).toNat) (a2).toNat = hb (H2332 r2360 (((40 * a1) + (H2332 r2363 (a1.toNat))).toNat)) (a2).toNat := by rw [show H2332 r2360 (((40 * a1) + (H2332 r2363 (a1.toNat))).toNat) = xwb d (xlot d ((h9 : Nat) : Int)) (a1).toNat by omega]
          refine wp_of e247 c247_46 (rw_iload_n (pc' := 47) (z := a2) rfl rfl ?_)
          refine wp_of e247 c247_47 (xc_S (pc' := 50) (as := [vI (H2332 r2360 (((40 * a1) + (H2332 r2363 (a1.toNat))).toNat)), vI a2]) (st := []) (lm_9_346) rfl rfl (Nat.le_of_ble_eq_true rfl) rfl (by decide) (u_205  w2336 ⟨by omega, by omega⟩ ⟨by omega, by omega⟩) (fun R2371 T2372 H2373 p2374 => ?_))
          obtain ⟨e2375, e2377, z2378, e2376, b2379, p2380⟩ := p2374
          subst e2375
          subst e2376
          subst e2377
          rcases p2380 with ⟨a2381, a2382⟩ | ⟨a2383, a2384⟩
          · show wp _ _ 247 50 [(5, vI v2301), (3, vL v2302), (0, .ref r0), (1, vI a1), (2, vI a2)] [vI z2378] _ H2332 _
            refine wp_of e247 c247_50 (rw_if_eq (p1 := 60) (p2 := 53) (by decide) rfl ⟨by omega, by omega⟩ (fun c2385 => ?_) (fun c2385 => ?_))
            · exfalso
              omega
            · refine wp_of e247 c247_53 (rw_lload_n (pc' := 54) (z := v2302) rfl rfl ?_)
              refine wp_of e247 c247_54 (rw_aload_n (pc' := 55) (v := .ref r0) rfl rfl rfl ?_)
              have k2386 : H2332 r0 3 = H2303 r0 3 := (f2337 r0 3 _ g0 rfl)
              have q2387 : H2332 r0 3 = (pp : Int) := k2386.trans q2327
              have h2388 : RB T H2332 r0 e d := (RB_fr w2305 g0 f2337 rfl h2329)
              refine wp_of e247 c247_55 (xc_V (pc' := 58) (r := r0) (as := []) (st := [vL v2302]) (lm_9_437) rfl rfl (Nat.le_of_ble_eq_true rfl) w2336 g0 sh_42 (by decide) rfl (by decide) (u_248 (e := e) (d := d) (g := ((xlot d ((h9 : Nat) : Int)))) w2336 g0 q2387 gpp (by assumption) (by assumption) h2388 h2342) (fun R2389 T2390 H2391 p2392 => ?_))
              obtain ⟨e2393, e2395, z2396, e2394, b2397, p2398⟩ := p2392
              subst e2393
              subst e2394
              subst e2395
              show wp _ _ 247 58 [(5, vI v2301), (3, vL v2302), (0, .ref r0), (1, vI a1), (2, vI a2)] [vL z2396, vL v2302] _ H2332 _
              refine wp_of e247 c247_58 (rw_ladd (pc' := 59) rfl ?_)
              refine wp_of e247 c247_59 (rw_lstore_n (pc' := 60) (z := v2302 + z2396) (L' := [(3, vL (v2302 + z2396)), (5, vI v2301), (0, .ref r0), (1, vI a1), (2, vI a2)]) rfl rfl rfl ?_)
              have _gp : wsm (xwf e d) (fun n => if a1 = -1 ∨ hb (xwb d (xlot d ((n : Nat) : Int)) (a1).toNat) (a2).toNat = 1 then xlW d n else 0) h9 = v2302 := by
                rw [wsm_gap _a _f]
                exact (‹v2302 = wsm (xwf e d) (fun n => if a1 = -1 ∨ hb (xwb d (xlot d ((n : Nat) : Int)) (a1).toNat) (a2).toNat = 1 then xlW d n else 0) u2304›).symm
              have _q : (v2302 + z2396) = wsm (xwf e d) (fun n => if a1 = -1 ∨ hb (xwb d (xlot d ((n : Nat) : Int)) (a1).toNat) (a2).toNat = 1 then xlW d n else 0) (h9 + 1) := by
                rw [wsm_y _c, _gp]
                have _lW : xlW d h9 = xlw d (xlot d ((h9 : Nat) : Int)) (d 0 3).toNat := rfl
                have _lb := @xlW_b d h9 (by omega)
                show (v2302 + z2396) = v2302 + (if a1 = -1 ∨ hb (xwb d (xlot d ((h9 : Nat) : Int)) (a1).toNat) (a2).toNat = 1 then xlW d h9 else 0)
                first
                | (rw [if_pos (by first | (left; omega) | (right; omega))]; omega)
                | (rw [if_neg (fun c9 => by rcases c9 with c9 | c9 <;> omega)]; omega)
              refine wp_of e247 c247_60 (rw_iinc (pc' := 63) (z := v2301) (L' := [(5, vI (v2301 + 1)), (3, vL (v2302 + z2396)), (0, .ref r0), (1, vI a1), (2, vI a2)]) rfl rfl rfl rfl ?_)
              refine wp_of e247 c247_63 (rw_goto (p1 := 5) (by decide) ?_)
              have k2400 : H2332 r0 29 = H2303 r0 29 := (f2337 r0 29 _ g0 rfl)
              have h2401 : KL T H2332 r0 (xwf e d) (xlots d).toNat := (KL_fr w2305 g0 f2337 rfl h2310)
              exact wp_lc (ks := [5, 3, 0, 1, 2]) (wl_c rfl (wl_c rfl (wl_c rfl (wl_c rfl (wl_c rfl wl_n))))) rfl (by decide) (ih2300 _ (by omega) (v2301 + 1) (v2302 + z2396) H2332 ((h9 + 1)) w2336 f2341 ⟨by omega, by omega⟩ ⟨by omega, by omega⟩ h2401 (by omega) (by omega) (by omega) (by omega) (_q) rfl)
          · show wp _ _ 247 50 [(5, vI v2301), (3, vL v2302), (0, .ref r0), (1, vI a1), (2, vI a2)] [vI z2378] _ H2332 _
            refine wp_of e247 c247_50 (rw_if_eq (p1 := 60) (p2 := 53) (by decide) rfl ⟨by omega, by omega⟩ (fun c2402 => ?_) (fun c2402 => ?_))
            · have _gp : wsm (xwf e d) (fun n => if a1 = -1 ∨ hb (xwb d (xlot d ((n : Nat) : Int)) (a1).toNat) (a2).toNat = 1 then xlW d n else 0) h9 = v2302 := by
                rw [wsm_gap _a _f]
                exact (‹v2302 = wsm (xwf e d) (fun n => if a1 = -1 ∨ hb (xwb d (xlot d ((n : Nat) : Int)) (a1).toNat) (a2).toNat = 1 then xlW d n else 0) u2304›).symm
              have _q : v2302 = wsm (xwf e d) (fun n => if a1 = -1 ∨ hb (xwb d (xlot d ((n : Nat) : Int)) (a1).toNat) (a2).toNat = 1 then xlW d n else 0) (h9 + 1) := by
                rw [wsm_y _c, _gp]
                have _lW : xlW d h9 = xlw d (xlot d ((h9 : Nat) : Int)) (d 0 3).toNat := rfl
                have _lb := @xlW_b d h9 (by omega)
                show v2302 = v2302 + (if a1 = -1 ∨ hb (xwb d (xlot d ((h9 : Nat) : Int)) (a1).toNat) (a2).toNat = 1 then xlW d h9 else 0)
                first
                | (rw [if_pos (by first | (left; omega) | (right; omega))]; omega)
                | (rw [if_neg (fun c9 => by rcases c9 with c9 | c9 <;> omega)]; omega)
              refine wp_of e247 c247_60 (rw_iinc (pc' := 63) (z := v2301) (L' := [(5, vI (v2301 + 1)), (3, vL v2302), (0, .ref r0), (1, vI a1), (2, vI a2)]) rfl rfl rfl rfl ?_)
              refine wp_of e247 c247_63 (rw_goto (p1 := 5) (by decide) ?_)
              have k2403 : H2332 r0 29 = H2303 r0 29 := (f2337 r0 29 _ g0 rfl)
              have h2404 : KL T H2332 r0 (xwf e d) (xlots d).toNat := (KL_fr w2305 g0 f2337 rfl h2310)
              exact wp_lc (ks := [5, 3, 0, 1, 2]) (wl_c rfl (wl_c rfl (wl_c rfl (wl_c rfl (wl_c rfl wl_n))))) rfl (by decide) (ih2300 _ (by omega) (v2301 + 1) v2302 H2332 ((h9 + 1)) w2336 f2341 ⟨by omega, by omega⟩ ⟨by omega, by omega⟩ h2404 (by omega) (by omega) (by omega) (by omega) (_q) rfl)
            · exfalso
              omega
  exact wp_lc (ks := [5, 3, 0, 1, 2]) (wl_c rfl (wl_c rfl (wl_c rfl (wl_c rfl (wl_c rfl wl_n))))) rfl (by decide) (lp2298 _ 0 0 H 0 hW wfr.rf ⟨by omega, by omega⟩ ⟨by omega, by omega⟩ h1688 (by omega) (by omega) (rfl) (by omega) (rfl) rfl)
/-! StrikeAwakeModel.awakeIn(II)I  -/
abbrev uq_251 (r0 : Nat) (a1 : Int) (a2 : Int) (pp : Nat) (e : xD) (d : xD) (T : wq_T) (H : wq_H) : Option Value → wq_T → wq_H → Prop := fun r T' H' => T = T' ∧ WT T H' ∧ wfr [(51, 999)] T H H' ∧ ∃ z : Int, some (vI z) = r ∧ (0 ≤ z ∧ z ≤ 20000) ∧ (((z = xta e d (a1).toNat (a2).toNat)))
set_option maxHeartbeats 4000000 in
theorem u_251 {kt : Nat → Option mc_E} {T : wq_T} {H : wq_H} {r0 : Nat} {a1 : Int} {a2 : Int} {pp : Nat} {e : xD} {d : xD} (hW : WT T H) (g0 : T.2.2.2 r0 = some 42) (i1 : 0 ≤ a1 ∧ a1 ≤ 5) (i2 : 0 ≤ a2 ∧ a2 ≤ 23) (qpp : H r0 3 = (pp : Int)) (gpp : T.2.2.2 pp = some 54) (p0 : XW d) (p1 : a1 < d 0 3) (p2 : 0 < xlots d ∨ xcn (xwf e d) (xlots d).toNat ≤ 0) (p3 : xlots d ≤ 20000) (hRB_r0 : RB T H r0 e d) (hKNB_r0 : KNB T H r0 e d (xlots d).toNat) : wpc kt 2 251 [.ref r0, vI a1, vI a2] T H (uq_251 r0 a1 a2 pp e d T H) := by
  refine wp_enter e251 (Nat.le_of_ble_eq_true rfl) rfl ?_
  have f0 : wfr [(51, 999)] T H H := wfr.rf
  show wp _ _ 251 0 [(0, .ref r0), (1, vI a1), (2, vI a2)] [] _ H _
  have b1444 : 0 ≤ H r0 29 ∧ H r0 29 ≤ 20000 := hW.box g0 (n := 33) rfl (by decide) rfl
  have h1445 : KL T H r0 (xwf e d) (xlots d).toNat := hKNB_r0.2
  have _xw := (by assumption : XW d)
  have _xc := _xw.2.1
  unfold XC at _xc
  have _n3 : H r0 3 ≠ -1 := by omega
  have _k := RP_k (RB_at hRB_r0 qpp)
  have _kb := hKNB_r0.1
  have _lm := RB_lm hRB_r0
  have _nb := xcn_b (f := xwf e d) (xlots d).toNat
  have _ar := RB_ar hRB_r0 (by omega)
  have _pk := _ar.1
  have h1446 : LB25 T H r0 (xwk d) (xsq d) := _ar.2.2.2.2.2.2.2
  refine wp_of e251 c251_0 (rw_iconst (pc' := 1) rfl ?_)
  refine wp_of e251 c251_1 (rw_istore_n (pc' := 2) (z := 0) (L' := [(3, vI 0), (0, .ref r0), (1, vI a1), (2, vI a2)]) rfl rfl rfl ?_)
  refine wp_of e251 c251_2 (rw_iconst (pc' := 3) rfl ?_)
  refine wp_of e251 c251_3 (rw_istore (pc' := 5) (z := 0) (L' := [(4, vI 0), (3, vI 0), (0, .ref r0), (1, vI a1), (2, vI a2)]) rfl rfl rfl ?_)
  have lp1839 : ∀ (n1840 : Nat) (v1842 : Int) (v1843 : Int) (H1844 : wq_H) (u1845 : Nat), WT T H1844 → wfr [(51, 999)] T H H1844 → (0 ≤ v1842 ∧ v1842 ≤ 20000) → (0 ≤ v1843 ∧ v1843 ≤ 20000) → KL T H1844 r0 (xwf e d) (xlots d).toNat → (v1842 ≤ H1844 r0 29) → (u1845 ≤ (xlots d).toNat) → (xcn (xwf e d) u1845 = v1842) → (v1843 ≤ v1842) → (v1843 = wsm (xwf e d) (fun n => if hb (xwb d (xlot d ((n : Nat) : Int)) (a1).toNat) (a2).toNat = 1 then (1 : Int) else 0) u1845) → (20000 - v1842).toNat = n1840 → wp kt 1 251 5 [(4, vI v1842), (3, vI v1843), (0, .ref r0), (1, vI a1), (2, vI a2)] [] T H1844 (uq_251 r0 a1 a2 pp e d T H) := by
    intro n1840
    induction n1840 using Nat.strongRecOn with
    | _ n1840 ih1841 =>
      intro v1842 v1843 H1844 u1845 w1846 f1847 b1848 b1849 h1851 x1852 x1853 x1854 x1855 x1856 m1850
      have f1857 := f0.tr f1847 rfl
      have k1858 : H1844 r0 29 = H r0 29 := (f1847 r0 29 _ g0 rfl)
      refine wp_of e251 c251_5 (rw_iload (pc' := 7) (z := v1842) rfl rfl ?_)
      refine wp_of e251 c251_7 (rw_aload_n (pc' := 8) (v := .ref r0) rfl rfl rfl ?_)
      refine wp_of e251 c251_8 (xg_I (pc' := 11) lf_9_422 w1846 g0 sh_42 (by decide) (by decide) ty_42_29 rfl rfl (fun b1859 b1860 => ?_))
      refine wp_of e251 c251_11 (rw_icmp_ge (p1 := 62) (p2 := 14) (by decide) rfl ⟨by omega, by omega⟩ ⟨by omega, by omega⟩ (fun c1861 => ?_) (fun c1861 => ?_))
      · refine wp_of e251 c251_62 (rw_iload_n (pc' := 63) (z := v1843) rfl rfl ?_)
        exact wp_ireturn e251 c251_63 rfl ⟨rfl, w1846, f1857, v1843, rfl, ⟨by omega, by omega⟩, (by
          show _ = wsm (xwf e d) (fun n => if hb (xwb d (xlot d ((n : Nat) : Int)) (a1).toNat) (a2).toNat = 1 then (1 : Int) else 0) (xlots d).toNat
          rw [wsm_end (u := u1845) (by omega) (by omega)]
          assumption)⟩
      · obtain ⟨h9, _a, _b, _c, _e, _f⟩ := xcn_nx (f := xwf e d) (u := u1845) (xlots d).toNat (by omega) (by omega)
        have _n9 : xcn (xwf e d) (h9 + 1) = xcn (xwf e d) h9 + 1 := by
          show xcn (xwf e d) h9 + (if xwf e d h9 > 0 then 1 else 0) = _
          rw [if_pos _c]
        refine wp_of e251 c251_14 (rw_aload_n (pc' := 15) (v := .ref r0) rfl rfl rfl ?_)
        refine wp_of e251 c251_15 (rw_aload_n (pc' := 16) (v := .ref r0) rfl rfl rfl ?_)
        refine wp_of e251 c251_16 (xg_R (pc' := 19) lf_9_42 w1846 g0 sh_42 (by decide) (by decide) ty_42_30 rfl rfl (fun r1862 q1863 g1864 => ?_))
        refine wp_of e251 c251_19 (rw_iload (pc' := 21) (z := v1842) rfl rfl ?_)
        refine wp_of e251 c251_21 (xa_I (so := 0) (pc' := 22) w1846 g1864 sh_52 (by decide) (ty_52 _) (by omega) (by omega) rfl (fun b1865 b1866 => ?_))
        have _kl := KL_at h1851 q1863 (n := h9) (s := (v1842).toNat) (by omega) _c (by omega)
        have _t9 : H1844 r1862 (v1842.toNat) = ((h9 : Nat) : Int) := by omega
        have _slw : SL d (xlot d ((h9 : Nat) : Int)) := SL_lot _xw.1 (by omega) (by omega)
        have k1867 : H1844 r0 3 = H r0 3 := (f1847 r0 3 _ g0 rfl)
        have q1868 : H1844 r0 3 = (pp : Int) := k1867.trans qpp
        have k1869 : wLM H1844 r0 = wLM H r0 := (wLM_fr hW g0 f1847 rfl)
        have h1870 : RB T H1844 r0 e d := (RB_fr hW g0 f1847 rfl hRB_r0)
        refine wp_of e251 c251_22 (xc_V (pc' := 25) (r := r0) (as := [vI (H1844 r1862 (v1842.toNat))]) (st := []) (lm_9_425) rfl rfl (Nat.le_of_ble_eq_true rfl) w1846 g0 sh_42 (by decide) rfl (by decide) (u_243 (e := e) (d := d) w1846 g0 ⟨by omega, by omega⟩ q1868 gpp (by omega) h1870) (fun R1871 T1872 H1873 p1874 => ?_))
        obtain ⟨e1875, w1877, f1878, e1876, p1879⟩ := p1874
        subst e1875
        subst e1876
        have f1881 := f1857.tr f1878 rfl
        have f1882 := f1847.tr f1878 rfl
        show wp _ _ 251 25 [(4, vI v1842), (3, vI v1843), (0, .ref r0), (1, vI a1), (2, vI a2)] [] _ H1873 _
        have h1883 : LQ27 T H1873 r0 0 (d 0 3) (xlot d ((h9 : Nat) : Int)) := by rw [← _t9]; exact p1879
        refine wp_of e251 c251_25 (rw_iload_n (pc' := 26) (z := v1843) rfl rfl ?_)
        refine wp_of e251 c251_26 (rw_aload_n (pc' := 27) (v := .ref r0) rfl rfl rfl ?_)
        refine wp_of e251 c251_27 (xg_R (pc' := 30) lf_9_33 w1877 g0 sh_42 (by decide) (by decide) ty_42_25 rfl rfl (fun r1884 q1885 g1886 => ?_))
        refine wp_of e251 c251_30 (rw_bipush (pc' := 32) (z := 40) rfl (by decide) ?_)
        refine wp_of e251 c251_32 (rw_iload_n (pc' := 33) (z := a1) rfl rfl ?_)
        have _sx := _slw (a1).toNat (by omega)
        refine wp_of e251 c251_33 (rw_imul (pc' := 34) rfl ?_)
        refine wp_of e251 c251_34 (rw_aload_n (pc' := 35) (v := .ref r0) rfl rfl rfl ?_)
        refine wp_of e251 c251_35 (xg_R (pc' := 38) lf_9_39 w1877 g0 sh_42 (by decide) (by decide) ty_42_27 rfl rfl (fun r1887 q1888 g1889 => ?_))
        refine wp_of e251 c251_38 (rw_iload_n (pc' := 39) (z := a1) rfl rfl ?_)
        refine wp_of e251 c251_39 (xa_I (so := 0) (pc' := 40) w1877 g1889 sh_51 (by decide) (ty_51 _) (by omega) (by omega) rfl (fun b1890 b1891 => ?_))
        have := LR_at h1883 q1888 (k := (a1.toNat)) (by omega) (by omega)
        refine wp_of e251 c251_40 (rw_iadd (pc' := 41) rfl ?_)
        refine wp_of e251 c251_41 (xa_I (so := 0) (pc' := 42) w1877 g1886 sh_49 (by decide) (ty_49 _) (by omega) (by omega) rfl (fun b1892 b1893 => ?_))
        have h1894 : LB25 T H1873 r0 (xwk d) (xsq d) := (LB25_fr w1846 g0 f1878 rfl (LB25_fr hW g0 f1847 rfl h1446))
        have := LB_x h1894 q1885 (k := (a1).toNat) (i := (xlot d ((h9 : Nat) : Int) (a1).toNat).toNat) (s := (((40 * a1) + (H1873 r1887 (a1.toNat))).toNat)) (by omega) (by omega) (by omega) _pk (by omega)
        have _x : xwk d (a1).toNat ((xsp d (a1).toNat).getD (xlot d ((h9 : Nat) : Int) (a1).toNat).toNat (0, 0)) = xwb d (xlot d ((h9 : Nat) : Int)) (a1).toNat := rfl
        have _hv := hb_and (b := xwb d (xlot d ((h9 : Nat) : Int)) (a1).toNat) (h := (a2).toNat) (by have := @xwb_b d (xlot d ((h9 : Nat) : Int)) (a1).toNat; omega) (by omega)
        rw [Int.toNat_of_nonneg (by omega : 0 ≤ a2), ← (show H1873 r1884 (((40 * a1) + (H1873 r1887 (a1.toNat))).toNat) = xwb d (xlot d ((h9 : Nat) : Int)) (a1).toNat by omega)] at _hv
        have _hw : hb (xwb d (xlot d ((h9 : Nat) : Int)) (a1).toNat) (a2).toNat = hb (H1873 r1884 (((40 * a1) + (H1873 r1887 (a1.toNat))).toNat)) (a2).toNat := by rw [show H1873 r1884 (((40 * a1) + (H1873 r1887 (a1.toNat))).toNat) = xwb d (xlot d ((h9 : Nat) : Int)) (a1).toNat by omega]
        refine wp_of e251 c251_42 (rw_iload_n (pc' := 43) (z := a2) rfl rfl ?_)
        refine wp_of e251 c251_43 (xc_S (pc' := 46) (as := [vI (H1873 r1884 (((40 * a1) + (H1873 r1887 (a1.toNat))).toNat)), vI a2]) (st := [vI v1843]) (lm_9_346) rfl rfl (Nat.le_of_ble_eq_true rfl) rfl (by decide) (u_205  w1877 ⟨by omega, by omega⟩ ⟨by omega, by omega⟩) (fun R1895 T1896 H1897 p1898 => ?_))
        obtain ⟨e1899, e1901, z1902, e1900, b1903, p1904⟩ := p1898
        subst e1899
        subst e1900
        subst e1901
        rcases p1904 with ⟨a1905, a1906⟩ | ⟨a1907, a1908⟩
        · show wp _ _ 251 46 [(4, vI v1842), (3, vI v1843), (0, .ref r0), (1, vI a1), (2, vI a2)] [vI z1902, vI v1843] _ H1873 _
          refine wp_of e251 c251_46 (rw_if_eq (p1 := 53) (p2 := 49) (by decide) rfl ⟨by omega, by omega⟩ (fun c1909 => ?_) (fun c1909 => ?_))
          · exfalso
            omega
          · refine wp_of e251 c251_49 (rw_iconst (pc' := 50) rfl ?_)
            refine wp_of e251 c251_50 (rw_goto (p1 := 54) (by decide) ?_)
            refine wp_of e251 c251_54 (rw_iadd (pc' := 55) rfl ?_)
            refine wp_of e251 c251_55 (rw_istore_n (pc' := 56) (z := v1843 + 1) (L' := [(3, vI (v1843 + 1)), (4, vI v1842), (0, .ref r0), (1, vI a1), (2, vI a2)]) rfl rfl rfl ?_)
            have _gp : wsm (xwf e d) (fun n => if hb (xwb d (xlot d ((n : Nat) : Int)) (a1).toNat) (a2).toNat = 1 then (1 : Int) else 0) h9 = v1843 := by
              rw [wsm_gap _a _f]
              exact (‹v1843 = wsm (xwf e d) (fun n => if hb (xwb d (xlot d ((n : Nat) : Int)) (a1).toNat) (a2).toNat = 1 then (1 : Int) else 0) u1845›).symm
            have _q : (v1843 + 1) = wsm (xwf e d) (fun n => if hb (xwb d (xlot d ((n : Nat) : Int)) (a1).toNat) (a2).toNat = 1 then (1 : Int) else 0) (h9 + 1) := by
              rw [wsm_y _c, _gp]
              show (v1843 + 1) = v1843 + (if hb (xwb d (xlot d ((h9 : Nat) : Int)) (a1).toNat) (a2).toNat = 1 then (1 : Int) else 0)
              first
              | (rw [if_pos (by omega)]; omega)
              | (rw [if_neg (by omega)]; omega)
            refine wp_of e251 c251_56 (rw_iinc (pc' := 59) (z := v1842) (L' := [(4, vI (v1842 + 1)), (3, vI (v1843 + 1)), (0, .ref r0), (1, vI a1), (2, vI a2)]) rfl rfl rfl rfl ?_)
            refine wp_of e251 c251_59 (rw_goto (p1 := 5) (by decide) ?_)
            have k1910 : H1873 r0 29 = H1844 r0 29 := (f1878 r0 29 _ g0 rfl)
            have h1911 : KL T H1873 r0 (xwf e d) (xlots d).toNat := (KL_fr w1846 g0 f1878 rfl h1851)
            exact wp_lc (ks := [4, 3, 0, 1, 2]) (wl_c rfl (wl_c rfl (wl_c rfl (wl_c rfl (wl_c rfl wl_n))))) rfl (by decide) (ih1841 _ (by omega) (v1842 + 1) (v1843 + 1) H1873 ((h9 + 1)) w1877 f1882 ⟨by omega, by omega⟩ ⟨by omega, by omega⟩ h1911 (by omega) (by omega) (by omega) (by omega) (_q) rfl)
        · show wp _ _ 251 46 [(4, vI v1842), (3, vI v1843), (0, .ref r0), (1, vI a1), (2, vI a2)] [vI z1902, vI v1843] _ H1873 _
          refine wp_of e251 c251_46 (rw_if_eq (p1 := 53) (p2 := 49) (by decide) rfl ⟨by omega, by omega⟩ (fun c1912 => ?_) (fun c1912 => ?_))
          · refine wp_of e251 c251_53 (rw_iconst (pc' := 54) rfl ?_)
            refine wp_of e251 c251_54 (rw_iadd (pc' := 55) rfl ?_)
            refine wp_of e251 c251_55 (rw_istore_n (pc' := 56) (z := v1843 + 0) (L' := [(3, vI (v1843 + 0)), (4, vI v1842), (0, .ref r0), (1, vI a1), (2, vI a2)]) rfl rfl rfl ?_)
            have _gp : wsm (xwf e d) (fun n => if hb (xwb d (xlot d ((n : Nat) : Int)) (a1).toNat) (a2).toNat = 1 then (1 : Int) else 0) h9 = v1843 := by
              rw [wsm_gap _a _f]
              exact (‹v1843 = wsm (xwf e d) (fun n => if hb (xwb d (xlot d ((n : Nat) : Int)) (a1).toNat) (a2).toNat = 1 then (1 : Int) else 0) u1845›).symm
            have _q : (v1843 + 0) = wsm (xwf e d) (fun n => if hb (xwb d (xlot d ((n : Nat) : Int)) (a1).toNat) (a2).toNat = 1 then (1 : Int) else 0) (h9 + 1) := by
              rw [wsm_y _c, _gp]
              show (v1843 + 0) = v1843 + (if hb (xwb d (xlot d ((h9 : Nat) : Int)) (a1).toNat) (a2).toNat = 1 then (1 : Int) else 0)
              first
              | (rw [if_pos (by omega)]; omega)
              | (rw [if_neg (by omega)]; omega)
            refine wp_of e251 c251_56 (rw_iinc (pc' := 59) (z := v1842) (L' := [(4, vI (v1842 + 1)), (3, vI (v1843 + 0)), (0, .ref r0), (1, vI a1), (2, vI a2)]) rfl rfl rfl rfl ?_)
            refine wp_of e251 c251_59 (rw_goto (p1 := 5) (by decide) ?_)
            have k1913 : H1873 r0 29 = H1844 r0 29 := (f1878 r0 29 _ g0 rfl)
            have h1914 : KL T H1873 r0 (xwf e d) (xlots d).toNat := (KL_fr w1846 g0 f1878 rfl h1851)
            exact wp_lc (ks := [4, 3, 0, 1, 2]) (wl_c rfl (wl_c rfl (wl_c rfl (wl_c rfl (wl_c rfl wl_n))))) rfl (by decide) (ih1841 _ (by omega) (v1842 + 1) (v1843 + 0) H1873 ((h9 + 1)) w1877 f1882 ⟨by omega, by omega⟩ ⟨by omega, by omega⟩ h1914 (by omega) (by omega) (by omega) (by omega) (_q) rfl)
          · exfalso
            omega
  exact wp_lc (ks := [4, 3, 0, 1, 2]) (wl_c rfl (wl_c rfl (wl_c rfl (wl_c rfl (wl_c rfl wl_n))))) rfl (by decide) (lp1839 _ 0 0 H 0 hW wfr.rf ⟨by omega, by omega⟩ ⟨by omega, by omega⟩ h1445 (by omega) (by omega) (rfl) (by omega) (rfl) rfl)
/-! StrikeAwakeModel.awakeSet([II)I  -/
abbrev uq_262 (r0 : Nat) (r1 : Nat) (a2 : Int) (pp : Nat) (e : xD) (d : xD) (g : Nat → Int) (T : wq_T) (H : wq_H) : Option Value → wq_T → wq_H → Prop := fun r T' H' => T = T' ∧ H = H' ∧ ∃ z : Int, some (vI z) = r ∧ (0 ≤ z ∧ z ≤ 16777215) ∧ (((z = xpa d g (a2).toNat)))
set_option maxHeartbeats 4000000 in
theorem u_262 {kt : Nat → Option mc_E} {T : wq_T} {H : wq_H} {r0 : Nat} {r1 : Nat} {a2 : Int} {pp : Nat} {e : xD} {d : xD} {g : Nat → Int} (hW : WT T H) (g0 : T.2.2.2 r0 = some 42) (g1 : T.2.2.2 r1 = some 51) (i2 : 0 ≤ a2 ∧ a2 ≤ 23) (qpp : H r0 3 = (pp : Int)) (gpp : T.2.2.2 pp = some 54) (p0 : XW d) (p1 : SL d g) (hRB_r0 : RB T H r0 e d) (hRR_r1 : RR T H r1 (d 0 3) g) : wpc kt 2 262 [.ref r0, .ref r1, vI a2] T H (uq_262 r0 r1 a2 pp e d g T H) := by
  refine wp_enter e262 (Nat.le_of_ble_eq_true rfl) rfl ?_
  show wp _ _ 262 0 [(0, .ref r0), (1, .ref r1), (2, vI a2)] [] _ H _
  have b1279 : 0 ≤ H pp 3 ∧ H pp 3 ≤ 6 := hW.box gpp (n := 27) rfl (by decide) rfl
  have _xw := p0
  have _xc := _xw.2.1
  unfold XC at _xc
  have _n3 : H r0 3 ≠ -1 := by omega
  have _k := RP_k (RB_at hRB_r0 qpp)
  have _ar := RB_ar hRB_r0 (by omega)
  have _pk := _ar.1
  have h1280 : LB25 T H r0 (xwk d) (xsq d) := _ar.2.2.2.2.2.2.2
  refine wp_of e262 c262_0 (rw_iconst (pc' := 1) rfl ?_)
  refine wp_of e262 c262_1 (rw_istore_n (pc' := 2) (z := 0) (L' := [(3, vI 0), (0, .ref r0), (1, .ref r1), (2, vI a2)]) rfl rfl rfl ?_)
  refine wp_of e262 c262_2 (rw_iconst (pc' := 3) rfl ?_)
  refine wp_of e262 c262_3 (rw_istore (pc' := 5) (z := 0) (L' := [(4, vI 0), (3, vI 0), (0, .ref r0), (1, .ref r1), (2, vI a2)]) rfl rfl rfl ?_)
  have lp1526 : ∀ (n1527 : Nat) (v1529 : Int) (v1530 : Int), (0 ≤ v1529 ∧ v1529 ≤ 6) → (0 ≤ v1530 ∧ v1530 ≤ 16777215) → (v1529 ≤ d 0 3) → (v1530 = xob (fun p => decide (hb (xwb d g p) (a2).toNat = 1)) (v1529).toNat) → (6 - v1529).toNat = n1527 → wp kt 1 262 5 [(4, vI v1529), (3, vI v1530), (0, .ref r0), (1, .ref r1), (2, vI a2)] [] T H (uq_262 r0 r1 a2 pp e d g T H) := by
    intro n1527
    induction n1527 using Nat.strongRecOn with
    | _ n1527 ih1528 =>
      intro v1529 v1530 b1533 b1534 x1536 x1537 m1535
      refine wp_of e262 c262_5 (rw_iload (pc' := 7) (z := v1529) rfl rfl ?_)
      refine wp_of e262 c262_7 (rw_aload_n (pc' := 8) (v := .ref r0) rfl rfl rfl ?_)
      refine wp_of e262 c262_8 (xg_K (pc' := 11) lf_9_337 hW g0 sh_42 (by decide) (by decide) rfl qpp rfl ?_)
      refine wp_of e262 c262_11 (xg_I (pc' := 14) lf_9_188 hW gpp sh_54 (by decide) (by decide) ty_54_3 rfl rfl (fun b1538 b1539 => ?_))
      refine wp_of e262 c262_14 (rw_icmp_ge (p1 := 56) (p2 := 17) (by decide) rfl ⟨by omega, by omega⟩ ⟨by omega, by omega⟩ (fun c1540 => ?_) (fun c1540 => ?_))
      · refine wp_of e262 c262_56 (rw_iload_n (pc' := 57) (z := v1530) rfl rfl ?_)
        exact wp_ireturn e262 c262_57 rfl ⟨rfl, rfl, v1530, rfl, ⟨by omega, by omega⟩, (by show _ = xob (fun p => decide (hb (xwb d g p) (a2).toNat = 1)) (d 0 3).toNat; rw [show (d 0 3).toNat = (v1529).toNat by omega]; assumption)⟩
      · refine wp_of e262 c262_17 (rw_iload_n (pc' := 18) (z := v1530) rfl rfl ?_)
        refine wp_of e262 c262_18 (rw_aload_n (pc' := 19) (v := .ref r0) rfl rfl rfl ?_)
        refine wp_of e262 c262_19 (xg_R (pc' := 22) lf_9_33 hW g0 sh_42 (by decide) (by decide) ty_42_25 rfl rfl (fun r1541 q1542 g1543 => ?_))
        refine wp_of e262 c262_22 (rw_bipush (pc' := 24) (z := 40) rfl (by decide) ?_)
        refine wp_of e262 c262_24 (rw_iload (pc' := 26) (z := v1529) rfl rfl ?_)
        refine wp_of e262 c262_26 (rw_imul (pc' := 27) rfl ?_)
        refine wp_of e262 c262_27 (rw_aload_n (pc' := 28) (v := .ref r1) rfl rfl rfl ?_)
        refine wp_of e262 c262_28 (rw_iload (pc' := 30) (z := v1529) rfl rfl ?_)
        refine wp_of e262 c262_30 (xa_I (so := 0) (pc' := 31) hW g1 sh_51 (by decide) (ty_51 _) (by omega) (by omega) rfl (fun b1544 b1545 => ?_))
        have := RR_at hRR_r1 (k := (v1529.toNat)) (by omega)
        have _s := p1 (v1529.toNat) (by omega)
        refine wp_of e262 c262_31 (rw_iadd (pc' := 32) rfl ?_)
        have _lx := LB_x h1280 q1542 (k := (v1529).toNat) (i := (g (v1529).toNat).toNat) (s := ((40 * v1529) + (H r1 (v1529.toNat))).toNat) (by omega) (by omega) (by omega) _pk (by omega)
        have _x : xwk d (v1529).toNat ((xsp d (v1529).toNat).getD (g (v1529).toNat).toNat (0, 0)) = xwb d g (v1529).toNat := rfl
        refine wp_of e262 c262_32 (xa_I (so := 0) (pc' := 33) hW g1543 sh_49 (by decide) (ty_49 _) (by omega) (by omega) rfl (fun b1546 b1547 => ?_))
        have _hv := hb_and (b := xwb d g (v1529).toNat) (h := (a2).toNat) (by have := @xwb_b d g (v1529).toNat; omega) (by omega)
        rw [Int.toNat_of_nonneg (by omega : 0 ≤ a2), ← (show H r1541 (((40 * v1529) + (H r1 (v1529.toNat))).toNat) = xwb d g (v1529).toNat by omega)] at _hv
        have _hw : hb (xwb d g (v1529).toNat) (a2).toNat = hb (H r1541 (((40 * v1529) + (H r1 (v1529.toNat))).toNat)) (a2).toNat := by rw [show H r1541 (((40 * v1529) + (H r1 (v1529.toNat))).toNat) = xwb d g (v1529).toNat by omega]
        have _hc := @hb_b (H r1541 (((40 * v1529) + (H r1 (v1529.toNat))).toNat)) (a2).toNat
        refine wp_of e262 c262_33 (rw_iload_n (pc' := 34) (z := a2) rfl rfl ?_)
        refine wp_of e262 c262_34 (xc_S (pc' := 37) (as := [vI (H r1541 (((40 * v1529) + (H r1 (v1529.toNat))).toNat)), vI a2]) (st := [vI v1530]) (lm_9_346) rfl rfl (Nat.le_of_ble_eq_true rfl) rfl (by decide) (u_205  hW ⟨by omega, by omega⟩ ⟨by omega, by omega⟩) (fun R1548 T1549 H1550 p1551 => ?_))
        obtain ⟨e1552, e1554, z1555, e1553, b1556, p1557⟩ := p1551
        subst e1552
        subst e1553
        subst e1554
        rcases p1557 with ⟨a1558, a1559⟩ | ⟨a1560, a1561⟩
        · show wp _ _ 262 37 [(4, vI v1529), (3, vI v1530), (0, .ref r0), (1, .ref r1), (2, vI a2)] [vI z1555, vI v1530] _ H _
          refine wp_of e262 c262_37 (rw_if_eq (p1 := 47) (p2 := 40) (by decide) rfl ⟨by omega, by omega⟩ (fun c1562 => ?_) (fun c1562 => ?_))
          · exfalso
            omega
          · refine wp_of e262 c262_40 (rw_iconst (pc' := 41) rfl ?_)
            refine wp_of e262 c262_41 (rw_iload (pc' := 43) (z := v1529) rfl rfl ?_)
            refine wp_of e262 c262_43 (rw_ishl (pc' := 44) rfl ?_)
            obtain ⟨v1563, e1564⟩ : ∃ x : Int, x = wq_shl 1 v1529 := ⟨_, rfl⟩
            rw [← e1564]
            have b1565 : 1 ≤ v1563 ∧ v1563 ≤ 64 := by
              rw [e1564]
              exact wq_shl1_6 ⟨by omega, by omega⟩
            refine wp_of e262 c262_44 (rw_goto (p1 := 48) (by decide) ?_)
            refine wp_of e262 c262_48 (rw_ior (pc' := 49) rfl ?_)
            obtain ⟨v1566, e1567⟩ : ∃ x : Int, x = wq_or v1530 v1563 := ⟨_, rfl⟩
            rw [← e1567]
            have b1568 : 0 ≤ v1566 ∧ v1566 ≤ 16777215 := by
              rw [e1567]
              exact wq_or_24 ⟨by omega, by omega⟩ ⟨by omega, by omega⟩
            refine wp_of e262 c262_49 (rw_istore_n (pc' := 50) (z := v1566) (L' := [(3, vI v1566), (4, vI v1529), (0, .ref r0), (1, .ref r1), (2, vI a2)]) rfl rfl rfl ?_)
            have _q : v1566 = xob (fun p => decide (hb (xwb d g p) (a2).toNat = 1)) (v1529 + 1).toNat := by
              rw [xob_s (by omega) (decide_eq_true (by omega)), ← ‹v1530 = xob (fun p => decide (hb (xwb d g p) (a2).toNat = 1)) (v1529).toNat›, ← e1564]
              exact e1567
            refine wp_of e262 c262_50 (rw_iinc (pc' := 53) (z := v1529) (L' := [(4, vI (v1529 + 1)), (3, vI v1566), (0, .ref r0), (1, .ref r1), (2, vI a2)]) rfl rfl rfl rfl ?_)
            refine wp_of e262 c262_53 (rw_goto (p1 := 5) (by decide) ?_)
            exact wp_lc (ks := [4, 3, 0, 1, 2]) (wl_c rfl (wl_c rfl (wl_c rfl (wl_c rfl (wl_c rfl wl_n))))) rfl (by decide) (ih1528 _ (by omega) (v1529 + 1) v1566 ⟨by omega, by omega⟩ ⟨by omega, by omega⟩ (by omega) (_q) rfl)
        · show wp _ _ 262 37 [(4, vI v1529), (3, vI v1530), (0, .ref r0), (1, .ref r1), (2, vI a2)] [vI z1555, vI v1530] _ H _
          refine wp_of e262 c262_37 (rw_if_eq (p1 := 47) (p2 := 40) (by decide) rfl ⟨by omega, by omega⟩ (fun c1569 => ?_) (fun c1569 => ?_))
          · refine wp_of e262 c262_47 (rw_iconst (pc' := 48) rfl ?_)
            refine wp_of e262 c262_48 (rw_ior (pc' := 49) rfl ?_)
            obtain ⟨v1570, e1571⟩ : ∃ x : Int, x = wq_or v1530 0 := ⟨_, rfl⟩
            rw [← e1571]
            have b1572 : 0 ≤ v1570 ∧ v1570 ≤ 16777215 := by
              rw [e1571]
              exact wq_or_24 ⟨by omega, by omega⟩ ⟨by omega, by omega⟩
            refine wp_of e262 c262_49 (rw_istore_n (pc' := 50) (z := v1570) (L' := [(3, vI v1570), (4, vI v1529), (0, .ref r0), (1, .ref r1), (2, vI a2)]) rfl rfl rfl ?_)
            have _q : v1570 = xob (fun p => decide (hb (xwb d g p) (a2).toNat = 1)) (v1529 + 1).toNat := by
              rw [xob_n (by omega) (decide_eq_false (by omega)), ← ‹v1530 = xob (fun p => decide (hb (xwb d g p) (a2).toNat = 1)) (v1529).toNat›, e1571]
              exact wq_or_0 ⟨by omega, by omega⟩
            refine wp_of e262 c262_50 (rw_iinc (pc' := 53) (z := v1529) (L' := [(4, vI (v1529 + 1)), (3, vI v1570), (0, .ref r0), (1, .ref r1), (2, vI a2)]) rfl rfl rfl rfl ?_)
            refine wp_of e262 c262_53 (rw_goto (p1 := 5) (by decide) ?_)
            exact wp_lc (ks := [4, 3, 0, 1, 2]) (wl_c rfl (wl_c rfl (wl_c rfl (wl_c rfl (wl_c rfl wl_n))))) rfl (by decide) (ih1528 _ (by omega) (v1529 + 1) v1570 ⟨by omega, by omega⟩ ⟨by omega, by omega⟩ (by omega) (_q) rfl)
          · exfalso
            omega
  exact wp_lc (ks := [4, 3, 0, 1, 2]) (wl_c rfl (wl_c rfl (wl_c rfl (wl_c rfl (wl_c rfl wl_n))))) rfl (by decide) (lp1526 _ 0 0 ⟨by omega, by omega⟩ ⟨by omega, by omega⟩ (by omega) (rfl) rfl)
/-! StrikeAwakeModel.extreme(I[IZ)I m_bed -/
abbrev uq_264_m_bed (r0 : Nat) (a1 : Int) (r2 : Nat) (a3 : Int) (pp : Nat) (e : xD) (d : xD) (T : wq_T) (H : wq_H) : Option Value → wq_T → wq_H → Prop := fun r T' H' => T = T' ∧ WT T H' ∧ wfr [(51, 999)] T H H' ∧ ∃ z : Int, some (vI z) = r ∧ (0 ≤ z ∧ z ≤ 30) ∧ (((XEX (decide (a3 ≠ 0)) (xwf e d) (fun n => (xpt d (xlot d n) (a1).toNat).1) (xlots d).toNat z)))
set_option maxHeartbeats 4000000 in
theorem u_264_m_bed {kt : Nat → Option mc_E} {T : wq_T} {H : wq_H} {r0 : Nat} {a1 : Int} {r2 : Nat} {a3 : Int} {pp : Nat} {e : xD} {d : xD} (hW : WT T H) (g0 : T.2.2.2 r0 = some 42) (i1 : 0 ≤ a1 ∧ a1 ≤ 5) (g2 : T.2.2.2 r2 = some 46) (i3 : 0 ≤ a3 ∧ a3 ≤ 1) (qpp : H r0 3 = (pp : Int)) (gpp : T.2.2.2 pp = some 54) (p0 : XW d) (p1 : a1 < d 0 3) (p2 : 0 < xlots d ∨ xcn (xwf e d) (xlots d).toNat ≤ 0) (p3 : xlots d ≤ 20000) (p4 : 0 < xcn (xwf e d) (xlots d).toNat) (hRB_r0 : RB T H r0 e d) (hKNB_r0 : KNB T H r0 e d (xlots d).toNat) (hRMb_r2 : RMb T H r2 (40 * (a1).toNat) ((xsp d (a1).toNat).length : Int) (fun i => ((xsp d (a1).toNat).getD i (0, 0)).1)) : wpc kt 2 264 [.ref r0, vI a1, .ref r2, vI a3] T H (uq_264_m_bed r0 a1 r2 a3 pp e d T H) := by
  refine wp_enter e264 (Nat.le_of_ble_eq_true rfl) rfl ?_
  have f0 : wfr [(51, 999)] T H H := wfr.rf
  show wp _ _ 264 0 [(0, .ref r0), (1, vI a1), (2, .ref r2), (3, vI a3)] [] _ H _
  have b1306 : 0 ≤ H r0 29 ∧ H r0 29 ≤ 20000 := hW.box g0 (n := 33) rfl (by decide) rfl
  have h1307 : KL T H r0 (xwf e d) (xlots d).toNat := hKNB_r0.2
  have _xw := (by assumption : XW d)
  have _xc := _xw.2.1
  unfold XC at _xc
  have _n3 : H r0 3 ≠ -1 := by omega
  have _k := RP_k (RB_at hRB_r0 qpp)
  have _kb := hKNB_r0.1
  have _lm := RB_lm hRB_r0
  have _nb := xcn_b (f := xwf e d) (xlots d).toNat
  have _pk := _xw.1
  refine wp_of e264 c264_0 (rw_iconst (pc' := 1) rfl ?_)
  refine wp_of e264 c264_1 (rw_istore (pc' := 3) (z := 0) (L' := [(4, vI 0), (0, .ref r0), (1, vI a1), (2, .ref r2), (3, vI a3)]) rfl rfl rfl ?_)
  refine wp_of e264 c264_3 (rw_iconst (pc' := 4) rfl ?_)
  refine wp_of e264 c264_4 (rw_istore (pc' := 6) (z := 0) (L' := [(5, vI 0), (4, vI 0), (0, .ref r0), (1, vI a1), (2, .ref r2), (3, vI a3)]) rfl rfl rfl ?_)
  have lp1577 : ∀ (n1578 : Nat) (v1580 : Int) (v1581 : Int) (H1582 : wq_H) (u1583 : Nat), WT T H1582 → wfr [(51, 999)] T H H1582 → (0 ≤ v1580 ∧ v1580 ≤ 20000) → (0 ≤ v1581 ∧ v1581 ≤ 30) → KL T H1582 r0 (xwf e d) (xlots d).toNat → (v1580 ≤ H1582 r0 29) → (u1583 ≤ (xlots d).toNat) → (xcn (xwf e d) u1583 = v1580) → (v1581 = xtr (decide (a3 ≠ 0)) (xwf e d) (fun n => (xpt d (xlot d ((n : Nat) : Int)) (a1).toNat).1) u1583) → (20000 - v1580).toNat = n1578 → wp kt 1 264 6 [(5, vI v1580), (4, vI v1581), (0, .ref r0), (1, vI a1), (2, .ref r2), (3, vI a3)] [] T H1582 (uq_264_m_bed r0 a1 r2 a3 pp e d T H) := by
    intro n1578
    induction n1578 using Nat.strongRecOn with
    | _ n1578 ih1579 =>
      intro v1580 v1581 H1582 u1583 w1584 f1585 b1586 b1587 h1589 x1590 x1591 x1592 x1593 m1588
      have f1594 := f0.tr f1585 rfl
      have k1595 : H1582 r0 29 = H r0 29 := (f1585 r0 29 _ g0 rfl)
      refine wp_of e264 c264_6 (rw_iload (pc' := 8) (z := v1580) rfl rfl ?_)
      refine wp_of e264 c264_8 (rw_aload_n (pc' := 9) (v := .ref r0) rfl rfl rfl ?_)
      refine wp_of e264 c264_9 (xg_I (pc' := 12) lf_9_422 w1584 g0 sh_42 (by decide) (by decide) ty_42_29 rfl rfl (fun b1596 b1597 => ?_))
      refine wp_of e264 c264_12 (rw_icmp_ge (p1 := 82) (p2 := 15) (by decide) rfl ⟨by omega, by omega⟩ ⟨by omega, by omega⟩ (fun c1598 => ?_) (fun c1598 => ?_))
      · refine wp_of e264 c264_82 (rw_iload (pc' := 84) (z := v1581) rfl rfl ?_)
        exact wp_ireturn e264 c264_84 rfl ⟨rfl, w1584, f1594, v1581, rfl, ⟨by omega, by omega⟩, (by
          rw [show v1581 = xtr (decide (a3 ≠ 0)) (xwf e d) (fun n => (xpt d (xlot d ((n : Nat) : Int)) (a1).toNat).1) (xlots d).toNat by rw [xtr_end (u := u1583) (by omega) (by omega)]; assumption]
          exact xtr_ex _ (by omega))⟩
      · obtain ⟨h9, _a, _b, _c, _e, _f⟩ := xcn_nx (f := xwf e d) (u := u1583) (xlots d).toNat (by omega) (by omega)
        have _n9 : xcn (xwf e d) (h9 + 1) = xcn (xwf e d) h9 + 1 := by
          show xcn (xwf e d) h9 + (if xwf e d h9 > 0 then 1 else 0) = _
          rw [if_pos _c]
        refine wp_of e264 c264_15 (rw_aload_n (pc' := 16) (v := .ref r0) rfl rfl rfl ?_)
        refine wp_of e264 c264_16 (rw_aload_n (pc' := 17) (v := .ref r0) rfl rfl rfl ?_)
        refine wp_of e264 c264_17 (xg_R (pc' := 20) lf_9_42 w1584 g0 sh_42 (by decide) (by decide) ty_42_30 rfl rfl (fun r1599 q1600 g1601 => ?_))
        refine wp_of e264 c264_20 (rw_iload (pc' := 22) (z := v1580) rfl rfl ?_)
        refine wp_of e264 c264_22 (xa_I (so := 0) (pc' := 23) w1584 g1601 sh_52 (by decide) (ty_52 _) (by omega) (by omega) rfl (fun b1602 b1603 => ?_))
        have _kl := KL_at h1589 q1600 (n := h9) (s := (v1580).toNat) (by omega) _c (by omega)
        have _t9 : H1582 r1599 (v1580.toNat) = ((h9 : Nat) : Int) := by omega
        have _slw : SL d (xlot d ((h9 : Nat) : Int)) := SL_lot _xw.1 (by omega) (by omega)
        have k1604 : H1582 r0 3 = H r0 3 := (f1585 r0 3 _ g0 rfl)
        have q1605 : H1582 r0 3 = (pp : Int) := k1604.trans qpp
        have k1606 : wLM H1582 r0 = wLM H r0 := (wLM_fr hW g0 f1585 rfl)
        have h1607 : RB T H1582 r0 e d := (RB_fr hW g0 f1585 rfl hRB_r0)
        refine wp_of e264 c264_23 (xc_V (pc' := 26) (r := r0) (as := [vI (H1582 r1599 (v1580.toNat))]) (st := []) (lm_9_425) rfl rfl (Nat.le_of_ble_eq_true rfl) w1584 g0 sh_42 (by decide) rfl (by decide) (u_243 (e := e) (d := d) w1584 g0 ⟨by omega, by omega⟩ q1605 gpp (by omega) h1607) (fun R1608 T1609 H1610 p1611 => ?_))
        obtain ⟨e1612, w1614, f1615, e1613, p1616⟩ := p1611
        subst e1612
        subst e1613
        have f1618 := f1594.tr f1615 rfl
        have f1619 := f1585.tr f1615 rfl
        show wp _ _ 264 26 [(5, vI v1580), (4, vI v1581), (0, .ref r0), (1, vI a1), (2, .ref r2), (3, vI a3)] [] _ H1610 _
        have h1620 : LQ27 T H1610 r0 0 (d 0 3) (xlot d ((h9 : Nat) : Int)) := by rw [← _t9]; exact p1616
        have _sx := _slw (a1).toNat (by omega)
        refine wp_of e264 c264_26 (rw_aload_n (pc' := 27) (v := .ref r2) rfl rfl rfl ?_)
        refine wp_of e264 c264_27 (rw_bipush (pc' := 29) (z := 40) rfl (by decide) ?_)
        refine wp_of e264 c264_29 (rw_iload_n (pc' := 30) (z := a1) rfl rfl ?_)
        refine wp_of e264 c264_30 (rw_imul (pc' := 31) rfl ?_)
        refine wp_of e264 c264_31 (rw_aload_n (pc' := 32) (v := .ref r0) rfl rfl rfl ?_)
        refine wp_of e264 c264_32 (xg_R (pc' := 35) lf_9_39 w1614 g0 sh_42 (by decide) (by decide) ty_42_27 rfl rfl (fun r1621 q1622 g1623 => ?_))
        refine wp_of e264 c264_35 (rw_iload_n (pc' := 36) (z := a1) rfl rfl ?_)
        refine wp_of e264 c264_36 (xa_I (so := 0) (pc' := 37) w1614 g1623 sh_51 (by decide) (ty_51 _) (by omega) (by omega) rfl (fun b1624 b1625 => ?_))
        have := LR_at h1620 q1622 (k := (a1.toNat)) (by omega) (by omega)
        refine wp_of e264 c264_37 (rw_iadd (pc' := 38) rfl ?_)
        have h1626 : RMb T H1610 r2 (40 * (a1).toNat) ((xsp d (a1).toNat).length : Int) (fun i => ((xsp d (a1).toNat).getD i (0, 0)).1) := (RMb_fr w1584 g2 f1615 rfl (RMb_fr hW g2 f1585 rfl hRMb_r2))
        have _rm : H1610 r2 ((40 * a1) + (H1610 r1621 (a1.toNat))).toNat = (xpt d (xlot d ((h9 : Nat) : Int)) (a1).toNat).1 := by
          rw [show ((40 * a1) + (H1610 r1621 (a1.toNat))).toNat = 40 * (a1).toNat + (xlot d ((h9 : Nat) : Int) (a1).toNat).toNat by omega]
          exact h1626 _ (by omega)
        refine wp_of e264 c264_38 (xa_I (so := 0) (pc' := 39) w1614 g2 sh_46 (by decide) (ty_46 _) (by omega) (by omega) rfl (fun b1627 b1628 => ?_))
        refine wp_of e264 c264_39 (rw_istore (pc' := 41) (z := H1610 r2 (((40 * a1) + (H1610 r1621 (a1.toNat))).toNat)) (L' := [(6, vI (H1610 r2 (((40 * a1) + (H1610 r1621 (a1.toNat))).toNat))), (5, vI v1580), (4, vI v1581), (0, .ref r0), (1, vI a1), (2, .ref r2), (3, vI a3)]) rfl rfl rfl ?_)
        refine wp_of e264 c264_41 (rw_iload (pc' := 43) (z := v1580) rfl rfl ?_)
        refine wp_of e264 c264_43 (rw_if_eq (p1 := 67) (p2 := 46) (by decide) rfl ⟨by omega, by omega⟩ (fun c1629 => ?_) (fun c1629 => ?_))
        · refine wp_of e264 c264_67 (rw_iload (pc' := 69) (z := H1610 r2 (((40 * a1) + (H1610 r1621 (a1.toNat))).toNat)) rfl rfl ?_)
          refine wp_of e264 c264_69 (rw_goto (p1 := 74) (by decide) ?_)
          refine wp_of e264 c264_74 (rw_istore (pc' := 76) (z := H1610 r2 (((40 * a1) + (H1610 r1621 (a1.toNat))).toNat)) (L' := [(4, vI (H1610 r2 (((40 * a1) + (H1610 r1621 (a1.toNat))).toNat))), (6, vI (H1610 r2 (((40 * a1) + (H1610 r1621 (a1.toNat))).toNat))), (5, vI v1580), (0, .ref r0), (1, vI a1), (2, .ref r2), (3, vI a3)]) rfl rfl rfl ?_)
          have _gp : xtr (decide (a3 ≠ 0)) (xwf e d) (fun n => (xpt d (xlot d ((n : Nat) : Int)) (a1).toNat).1) h9 = v1581 := by
            rw [xtr_gap _a _f]
            exact (‹v1581 = xtr (decide (a3 ≠ 0)) (xwf e d) (fun n => (xpt d (xlot d ((n : Nat) : Int)) (a1).toNat).1) u1583›).symm
          have _vv : (H1610 r2 (((40 * a1) + (H1610 r1621 (a1.toNat))).toNat)) = (fun n => (xpt d (xlot d ((n : Nat) : Int)) (a1).toNat).1) h9 := by show _ = (xpt d (xlot d ((h9 : Nat) : Int)) (a1).toNat).1; omega
          have _q : H1610 r2 (((40 * a1) + (H1610 r1621 (a1.toNat))).toNat) = xtr (decide (a3 ≠ 0)) (xwf e d) (fun n => (xpt d (xlot d ((n : Nat) : Int)) (a1).toNat).1) (h9 + 1) := by
            rw [xtr_y _c, _gp, ← _vv]
            first
            | rw [if_pos (Or.inl (by omega))]
            | rw [if_pos (Or.inr (by rw [if_pos (decide_eq_true (by omega))]; omega))]
            | rw [if_pos (Or.inr (by rw [if_neg (fun c9 => of_decide_eq_true c9 (by omega))]; omega))]
            | rw [if_neg (fun c8 => by
                rcases c8 with c8 | c8
                · omega
                · first
                  | (rw [if_pos (decide_eq_true (by omega))] at c8; omega)
                  | (rw [if_neg (fun c9 => of_decide_eq_true c9 (by omega))] at c8; omega))]
          refine wp_of e264 c264_76 (rw_iinc (pc' := 79) (z := v1580) (L' := [(5, vI (v1580 + 1)), (4, vI (H1610 r2 (((40 * a1) + (H1610 r1621 (a1.toNat))).toNat))), (6, vI (H1610 r2 (((40 * a1) + (H1610 r1621 (a1.toNat))).toNat))), (0, .ref r0), (1, vI a1), (2, .ref r2), (3, vI a3)]) rfl rfl rfl rfl ?_)
          refine wp_of e264 c264_79 (rw_goto (p1 := 6) (by decide) ?_)
          have k1630 : H1610 r0 29 = H1582 r0 29 := (f1615 r0 29 _ g0 rfl)
          have h1631 : KL T H1610 r0 (xwf e d) (xlots d).toNat := (KL_fr w1584 g0 f1615 rfl h1589)
          exact wp_lc (ks := [5, 4, 6, 0, 1, 2, 3]) (wl_c rfl (wl_c rfl (wl_c rfl (wl_c rfl (wl_c rfl (wl_c rfl wl_n)))))) rfl (by decide) (ih1579 _ (by omega) (v1580 + 1) (H1610 r2 (((40 * a1) + (H1610 r1621 (a1.toNat))).toNat)) H1610 ((h9 + 1)) w1614 f1619 ⟨by omega, by omega⟩ ⟨by omega, by omega⟩ h1631 (by omega) (by omega) (by omega) (_q) rfl)
        · refine wp_of e264 c264_46 (rw_iload_n (pc' := 47) (z := a3) rfl rfl ?_)
          refine wp_of e264 c264_47 (rw_if_eq (p1 := 60) (p2 := 50) (by decide) rfl ⟨by omega, by omega⟩ (fun c1632 => ?_) (fun c1632 => ?_))
          · refine wp_of e264 c264_60 (rw_iload (pc' := 62) (z := H1610 r2 (((40 * a1) + (H1610 r1621 (a1.toNat))).toNat)) rfl rfl ?_)
            refine wp_of e264 c264_62 (rw_iload (pc' := 64) (z := v1581) rfl rfl ?_)
            refine wp_of e264 c264_64 (rw_icmp_ge (p1 := 72) (p2 := 67) (by decide) rfl ⟨by omega, by omega⟩ ⟨by omega, by omega⟩ (fun c1633 => ?_) (fun c1633 => ?_))
            · refine wp_of e264 c264_72 (rw_iload (pc' := 74) (z := v1581) rfl rfl ?_)
              refine wp_of e264 c264_74 (rw_istore (pc' := 76) (z := v1581) (L' := [(4, vI v1581), (6, vI (H1610 r2 (((40 * a1) + (H1610 r1621 (a1.toNat))).toNat))), (5, vI v1580), (0, .ref r0), (1, vI a1), (2, .ref r2), (3, vI a3)]) rfl rfl rfl ?_)
              have _gp : xtr (decide (a3 ≠ 0)) (xwf e d) (fun n => (xpt d (xlot d ((n : Nat) : Int)) (a1).toNat).1) h9 = v1581 := by
                rw [xtr_gap _a _f]
                exact (‹v1581 = xtr (decide (a3 ≠ 0)) (xwf e d) (fun n => (xpt d (xlot d ((n : Nat) : Int)) (a1).toNat).1) u1583›).symm
              have _vv : (H1610 r2 (((40 * a1) + (H1610 r1621 (a1.toNat))).toNat)) = (fun n => (xpt d (xlot d ((n : Nat) : Int)) (a1).toNat).1) h9 := by show _ = (xpt d (xlot d ((h9 : Nat) : Int)) (a1).toNat).1; omega
              have _q : v1581 = xtr (decide (a3 ≠ 0)) (xwf e d) (fun n => (xpt d (xlot d ((n : Nat) : Int)) (a1).toNat).1) (h9 + 1) := by
                rw [xtr_y _c, _gp, ← _vv]
                first
                | rw [if_pos (Or.inl (by omega))]
                | rw [if_pos (Or.inr (by rw [if_pos (decide_eq_true (by omega))]; omega))]
                | rw [if_pos (Or.inr (by rw [if_neg (fun c9 => of_decide_eq_true c9 (by omega))]; omega))]
                | rw [if_neg (fun c8 => by
                    rcases c8 with c8 | c8
                    · omega
                    · first
                      | (rw [if_pos (decide_eq_true (by omega))] at c8; omega)
                      | (rw [if_neg (fun c9 => of_decide_eq_true c9 (by omega))] at c8; omega))]
              refine wp_of e264 c264_76 (rw_iinc (pc' := 79) (z := v1580) (L' := [(5, vI (v1580 + 1)), (4, vI v1581), (6, vI (H1610 r2 (((40 * a1) + (H1610 r1621 (a1.toNat))).toNat))), (0, .ref r0), (1, vI a1), (2, .ref r2), (3, vI a3)]) rfl rfl rfl rfl ?_)
              refine wp_of e264 c264_79 (rw_goto (p1 := 6) (by decide) ?_)
              have k1634 : H1610 r0 29 = H1582 r0 29 := (f1615 r0 29 _ g0 rfl)
              have h1635 : KL T H1610 r0 (xwf e d) (xlots d).toNat := (KL_fr w1584 g0 f1615 rfl h1589)
              exact wp_lc (ks := [5, 4, 6, 0, 1, 2, 3]) (wl_c rfl (wl_c rfl (wl_c rfl (wl_c rfl (wl_c rfl (wl_c rfl wl_n)))))) rfl (by decide) (ih1579 _ (by omega) (v1580 + 1) v1581 H1610 ((h9 + 1)) w1614 f1619 ⟨by omega, by omega⟩ ⟨by omega, by omega⟩ h1635 (by omega) (by omega) (by omega) (_q) rfl)
            · refine wp_of e264 c264_67 (rw_iload (pc' := 69) (z := H1610 r2 (((40 * a1) + (H1610 r1621 (a1.toNat))).toNat)) rfl rfl ?_)
              refine wp_of e264 c264_69 (rw_goto (p1 := 74) (by decide) ?_)
              refine wp_of e264 c264_74 (rw_istore (pc' := 76) (z := H1610 r2 (((40 * a1) + (H1610 r1621 (a1.toNat))).toNat)) (L' := [(4, vI (H1610 r2 (((40 * a1) + (H1610 r1621 (a1.toNat))).toNat))), (6, vI (H1610 r2 (((40 * a1) + (H1610 r1621 (a1.toNat))).toNat))), (5, vI v1580), (0, .ref r0), (1, vI a1), (2, .ref r2), (3, vI a3)]) rfl rfl rfl ?_)
              have _gp : xtr (decide (a3 ≠ 0)) (xwf e d) (fun n => (xpt d (xlot d ((n : Nat) : Int)) (a1).toNat).1) h9 = v1581 := by
                rw [xtr_gap _a _f]
                exact (‹v1581 = xtr (decide (a3 ≠ 0)) (xwf e d) (fun n => (xpt d (xlot d ((n : Nat) : Int)) (a1).toNat).1) u1583›).symm
              have _vv : (H1610 r2 (((40 * a1) + (H1610 r1621 (a1.toNat))).toNat)) = (fun n => (xpt d (xlot d ((n : Nat) : Int)) (a1).toNat).1) h9 := by show _ = (xpt d (xlot d ((h9 : Nat) : Int)) (a1).toNat).1; omega
              have _q : H1610 r2 (((40 * a1) + (H1610 r1621 (a1.toNat))).toNat) = xtr (decide (a3 ≠ 0)) (xwf e d) (fun n => (xpt d (xlot d ((n : Nat) : Int)) (a1).toNat).1) (h9 + 1) := by
                rw [xtr_y _c, _gp, ← _vv]
                first
                | rw [if_pos (Or.inl (by omega))]
                | rw [if_pos (Or.inr (by rw [if_pos (decide_eq_true (by omega))]; omega))]
                | rw [if_pos (Or.inr (by rw [if_neg (fun c9 => of_decide_eq_true c9 (by omega))]; omega))]
                | rw [if_neg (fun c8 => by
                    rcases c8 with c8 | c8
                    · omega
                    · first
                      | (rw [if_pos (decide_eq_true (by omega))] at c8; omega)
                      | (rw [if_neg (fun c9 => of_decide_eq_true c9 (by omega))] at c8; omega))]
              refine wp_of e264 c264_76 (rw_iinc (pc' := 79) (z := v1580) (L' := [(5, vI (v1580 + 1)), (4, vI (H1610 r2 (((40 * a1) + (H1610 r1621 (a1.toNat))).toNat))), (6, vI (H1610 r2 (((40 * a1) + (H1610 r1621 (a1.toNat))).toNat))), (0, .ref r0), (1, vI a1), (2, .ref r2), (3, vI a3)]) rfl rfl rfl rfl ?_)
              refine wp_of e264 c264_79 (rw_goto (p1 := 6) (by decide) ?_)
              have k1636 : H1610 r0 29 = H1582 r0 29 := (f1615 r0 29 _ g0 rfl)
              have h1637 : KL T H1610 r0 (xwf e d) (xlots d).toNat := (KL_fr w1584 g0 f1615 rfl h1589)
              exact wp_lc (ks := [5, 4, 6, 0, 1, 2, 3]) (wl_c rfl (wl_c rfl (wl_c rfl (wl_c rfl (wl_c rfl (wl_c rfl wl_n)))))) rfl (by decide) (ih1579 _ (by omega) (v1580 + 1) (H1610 r2 (((40 * a1) + (H1610 r1621 (a1.toNat))).toNat)) H1610 ((h9 + 1)) w1614 f1619 ⟨by omega, by omega⟩ ⟨by omega, by omega⟩ h1637 (by omega) (by omega) (by omega) (_q) rfl)
          · refine wp_of e264 c264_50 (rw_iload (pc' := 52) (z := H1610 r2 (((40 * a1) + (H1610 r1621 (a1.toNat))).toNat)) rfl rfl ?_)
            refine wp_of e264 c264_52 (rw_iload (pc' := 54) (z := v1581) rfl rfl ?_)
            refine wp_of e264 c264_54 (rw_icmp_le (p1 := 72) (p2 := 57) (by decide) rfl ⟨by omega, by omega⟩ ⟨by omega, by omega⟩ (fun c1638 => ?_) (fun c1638 => ?_))
            · refine wp_of e264 c264_72 (rw_iload (pc' := 74) (z := v1581) rfl rfl ?_)
              refine wp_of e264 c264_74 (rw_istore (pc' := 76) (z := v1581) (L' := [(4, vI v1581), (6, vI (H1610 r2 (((40 * a1) + (H1610 r1621 (a1.toNat))).toNat))), (5, vI v1580), (0, .ref r0), (1, vI a1), (2, .ref r2), (3, vI a3)]) rfl rfl rfl ?_)
              have _gp : xtr (decide (a3 ≠ 0)) (xwf e d) (fun n => (xpt d (xlot d ((n : Nat) : Int)) (a1).toNat).1) h9 = v1581 := by
                rw [xtr_gap _a _f]
                exact (‹v1581 = xtr (decide (a3 ≠ 0)) (xwf e d) (fun n => (xpt d (xlot d ((n : Nat) : Int)) (a1).toNat).1) u1583›).symm
              have _vv : (H1610 r2 (((40 * a1) + (H1610 r1621 (a1.toNat))).toNat)) = (fun n => (xpt d (xlot d ((n : Nat) : Int)) (a1).toNat).1) h9 := by show _ = (xpt d (xlot d ((h9 : Nat) : Int)) (a1).toNat).1; omega
              have _q : v1581 = xtr (decide (a3 ≠ 0)) (xwf e d) (fun n => (xpt d (xlot d ((n : Nat) : Int)) (a1).toNat).1) (h9 + 1) := by
                rw [xtr_y _c, _gp, ← _vv]
                first
                | rw [if_pos (Or.inl (by omega))]
                | rw [if_pos (Or.inr (by rw [if_pos (decide_eq_true (by omega))]; omega))]
                | rw [if_pos (Or.inr (by rw [if_neg (fun c9 => of_decide_eq_true c9 (by omega))]; omega))]
                | rw [if_neg (fun c8 => by
                    rcases c8 with c8 | c8
                    · omega
                    · first
                      | (rw [if_pos (decide_eq_true (by omega))] at c8; omega)
                      | (rw [if_neg (fun c9 => of_decide_eq_true c9 (by omega))] at c8; omega))]
              refine wp_of e264 c264_76 (rw_iinc (pc' := 79) (z := v1580) (L' := [(5, vI (v1580 + 1)), (4, vI v1581), (6, vI (H1610 r2 (((40 * a1) + (H1610 r1621 (a1.toNat))).toNat))), (0, .ref r0), (1, vI a1), (2, .ref r2), (3, vI a3)]) rfl rfl rfl rfl ?_)
              refine wp_of e264 c264_79 (rw_goto (p1 := 6) (by decide) ?_)
              have k1639 : H1610 r0 29 = H1582 r0 29 := (f1615 r0 29 _ g0 rfl)
              have h1640 : KL T H1610 r0 (xwf e d) (xlots d).toNat := (KL_fr w1584 g0 f1615 rfl h1589)
              exact wp_lc (ks := [5, 4, 6, 0, 1, 2, 3]) (wl_c rfl (wl_c rfl (wl_c rfl (wl_c rfl (wl_c rfl (wl_c rfl wl_n)))))) rfl (by decide) (ih1579 _ (by omega) (v1580 + 1) v1581 H1610 ((h9 + 1)) w1614 f1619 ⟨by omega, by omega⟩ ⟨by omega, by omega⟩ h1640 (by omega) (by omega) (by omega) (_q) rfl)
            · refine wp_of e264 c264_57 (rw_goto (p1 := 67) (by decide) ?_)
              refine wp_of e264 c264_67 (rw_iload (pc' := 69) (z := H1610 r2 (((40 * a1) + (H1610 r1621 (a1.toNat))).toNat)) rfl rfl ?_)
              refine wp_of e264 c264_69 (rw_goto (p1 := 74) (by decide) ?_)
              refine wp_of e264 c264_74 (rw_istore (pc' := 76) (z := H1610 r2 (((40 * a1) + (H1610 r1621 (a1.toNat))).toNat)) (L' := [(4, vI (H1610 r2 (((40 * a1) + (H1610 r1621 (a1.toNat))).toNat))), (6, vI (H1610 r2 (((40 * a1) + (H1610 r1621 (a1.toNat))).toNat))), (5, vI v1580), (0, .ref r0), (1, vI a1), (2, .ref r2), (3, vI a3)]) rfl rfl rfl ?_)
              have _gp : xtr (decide (a3 ≠ 0)) (xwf e d) (fun n => (xpt d (xlot d ((n : Nat) : Int)) (a1).toNat).1) h9 = v1581 := by
                rw [xtr_gap _a _f]
                exact (‹v1581 = xtr (decide (a3 ≠ 0)) (xwf e d) (fun n => (xpt d (xlot d ((n : Nat) : Int)) (a1).toNat).1) u1583›).symm
              have _vv : (H1610 r2 (((40 * a1) + (H1610 r1621 (a1.toNat))).toNat)) = (fun n => (xpt d (xlot d ((n : Nat) : Int)) (a1).toNat).1) h9 := by show _ = (xpt d (xlot d ((h9 : Nat) : Int)) (a1).toNat).1; omega
              have _q : H1610 r2 (((40 * a1) + (H1610 r1621 (a1.toNat))).toNat) = xtr (decide (a3 ≠ 0)) (xwf e d) (fun n => (xpt d (xlot d ((n : Nat) : Int)) (a1).toNat).1) (h9 + 1) := by
                rw [xtr_y _c, _gp, ← _vv]
                first
                | rw [if_pos (Or.inl (by omega))]
                | rw [if_pos (Or.inr (by rw [if_pos (decide_eq_true (by omega))]; omega))]
                | rw [if_pos (Or.inr (by rw [if_neg (fun c9 => of_decide_eq_true c9 (by omega))]; omega))]
                | rw [if_neg (fun c8 => by
                    rcases c8 with c8 | c8
                    · omega
                    · first
                      | (rw [if_pos (decide_eq_true (by omega))] at c8; omega)
                      | (rw [if_neg (fun c9 => of_decide_eq_true c9 (by omega))] at c8; omega))]
              refine wp_of e264 c264_76 (rw_iinc (pc' := 79) (z := v1580) (L' := [(5, vI (v1580 + 1)), (4, vI (H1610 r2 (((40 * a1) + (H1610 r1621 (a1.toNat))).toNat))), (6, vI (H1610 r2 (((40 * a1) + (H1610 r1621 (a1.toNat))).toNat))), (0, .ref r0), (1, vI a1), (2, .ref r2), (3, vI a3)]) rfl rfl rfl rfl ?_)
              refine wp_of e264 c264_79 (rw_goto (p1 := 6) (by decide) ?_)
              have k1641 : H1610 r0 29 = H1582 r0 29 := (f1615 r0 29 _ g0 rfl)
              have h1642 : KL T H1610 r0 (xwf e d) (xlots d).toNat := (KL_fr w1584 g0 f1615 rfl h1589)
              exact wp_lc (ks := [5, 4, 6, 0, 1, 2, 3]) (wl_c rfl (wl_c rfl (wl_c rfl (wl_c rfl (wl_c rfl (wl_c rfl wl_n)))))) rfl (by decide) (ih1579 _ (by omega) (v1580 + 1) (H1610 r2 (((40 * a1) + (H1610 r1621 (a1.toNat))).toNat)) H1610 ((h9 + 1)) w1614 f1619 ⟨by omega, by omega⟩ ⟨by omega, by omega⟩ h1642 (by omega) (by omega) (by omega) (_q) rfl)
  exact wp_lc (ks := [5, 4, 0, 1, 2, 3]) (wl_c rfl (wl_c rfl (wl_c rfl (wl_c rfl (wl_c rfl (wl_c rfl wl_n)))))) rfl (by decide) (lp1577 _ 0 0 H 0 hW wfr.rf ⟨by omega, by omega⟩ ⟨by omega, by omega⟩ h1307 (by omega) (by omega) (rfl) (rfl) rfl)
/-! StrikeAwakeModel.extreme(I[IZ)I m_length -/
abbrev uq_264_m_length (r0 : Nat) (a1 : Int) (r2 : Nat) (a3 : Int) (pp : Nat) (e : xD) (d : xD) (T : wq_T) (H : wq_H) : Option Value → wq_T → wq_H → Prop := fun r T' H' => T = T' ∧ WT T H' ∧ wfr [(51, 999)] T H H' ∧ ∃ z : Int, some (vI z) = r ∧ (0 ≤ z ∧ z ≤ 16) ∧ (((XEX (decide (a3 ≠ 0)) (xwf e d) (fun n => (xpt d (xlot d n) (a1).toNat).2) (xlots d).toNat z)))
set_option maxHeartbeats 4000000 in
theorem u_264_m_length {kt : Nat → Option mc_E} {T : wq_T} {H : wq_H} {r0 : Nat} {a1 : Int} {r2 : Nat} {a3 : Int} {pp : Nat} {e : xD} {d : xD} (hW : WT T H) (g0 : T.2.2.2 r0 = some 42) (i1 : 0 ≤ a1 ∧ a1 ≤ 5) (g2 : T.2.2.2 r2 = some 47) (i3 : 0 ≤ a3 ∧ a3 ≤ 1) (qpp : H r0 3 = (pp : Int)) (gpp : T.2.2.2 pp = some 54) (p0 : XW d) (p1 : a1 < d 0 3) (p2 : 0 < xlots d ∨ xcn (xwf e d) (xlots d).toNat ≤ 0) (p3 : xlots d ≤ 20000) (p4 : 0 < xcn (xwf e d) (xlots d).toNat) (hRB_r0 : RB T H r0 e d) (hKNB_r0 : KNB T H r0 e d (xlots d).toNat) (hRMl_r2 : RMl T H r2 (40 * (a1).toNat) ((xsp d (a1).toNat).length : Int) (fun i => ((xsp d (a1).toNat).getD i (0, 0)).2)) : wpc kt 2 264 [.ref r0, vI a1, .ref r2, vI a3] T H (uq_264_m_length r0 a1 r2 a3 pp e d T H) := by
  refine wp_enter e264 (Nat.le_of_ble_eq_true rfl) rfl ?_
  have f0 : wfr [(51, 999)] T H H := wfr.rf
  show wp _ _ 264 0 [(0, .ref r0), (1, vI a1), (2, .ref r2), (3, vI a3)] [] _ H _
  have b1306 : 0 ≤ H r0 29 ∧ H r0 29 ≤ 20000 := hW.box g0 (n := 33) rfl (by decide) rfl
  have h1307 : KL T H r0 (xwf e d) (xlots d).toNat := hKNB_r0.2
  have _xw := (by assumption : XW d)
  have _xc := _xw.2.1
  unfold XC at _xc
  have _n3 : H r0 3 ≠ -1 := by omega
  have _k := RP_k (RB_at hRB_r0 qpp)
  have _kb := hKNB_r0.1
  have _lm := RB_lm hRB_r0
  have _nb := xcn_b (f := xwf e d) (xlots d).toNat
  have _pk := _xw.1
  refine wp_of e264 c264_0 (rw_iconst (pc' := 1) rfl ?_)
  refine wp_of e264 c264_1 (rw_istore (pc' := 3) (z := 0) (L' := [(4, vI 0), (0, .ref r0), (1, vI a1), (2, .ref r2), (3, vI a3)]) rfl rfl rfl ?_)
  refine wp_of e264 c264_3 (rw_iconst (pc' := 4) rfl ?_)
  refine wp_of e264 c264_4 (rw_istore (pc' := 6) (z := 0) (L' := [(5, vI 0), (4, vI 0), (0, .ref r0), (1, vI a1), (2, .ref r2), (3, vI a3)]) rfl rfl rfl ?_)
  have lp1577 : ∀ (n1578 : Nat) (v1580 : Int) (v1581 : Int) (H1582 : wq_H) (u1583 : Nat), WT T H1582 → wfr [(51, 999)] T H H1582 → (0 ≤ v1580 ∧ v1580 ≤ 20000) → (0 ≤ v1581 ∧ v1581 ≤ 16) → KL T H1582 r0 (xwf e d) (xlots d).toNat → (v1580 ≤ H1582 r0 29) → (u1583 ≤ (xlots d).toNat) → (xcn (xwf e d) u1583 = v1580) → (v1581 = xtr (decide (a3 ≠ 0)) (xwf e d) (fun n => (xpt d (xlot d ((n : Nat) : Int)) (a1).toNat).2) u1583) → (20000 - v1580).toNat = n1578 → wp kt 1 264 6 [(5, vI v1580), (4, vI v1581), (0, .ref r0), (1, vI a1), (2, .ref r2), (3, vI a3)] [] T H1582 (uq_264_m_length r0 a1 r2 a3 pp e d T H) := by
    intro n1578
    induction n1578 using Nat.strongRecOn with
    | _ n1578 ih1579 =>
      intro v1580 v1581 H1582 u1583 w1584 f1585 b1586 b1587 h1589 x1590 x1591 x1592 x1593 m1588
      have f1594 := f0.tr f1585 rfl
      have k1595 : H1582 r0 29 = H r0 29 := (f1585 r0 29 _ g0 rfl)
      refine wp_of e264 c264_6 (rw_iload (pc' := 8) (z := v1580) rfl rfl ?_)
      refine wp_of e264 c264_8 (rw_aload_n (pc' := 9) (v := .ref r0) rfl rfl rfl ?_)
      refine wp_of e264 c264_9 (xg_I (pc' := 12) lf_9_422 w1584 g0 sh_42 (by decide) (by decide) ty_42_29 rfl rfl (fun b1596 b1597 => ?_))
      refine wp_of e264 c264_12 (rw_icmp_ge (p1 := 82) (p2 := 15) (by decide) rfl ⟨by omega, by omega⟩ ⟨by omega, by omega⟩ (fun c1598 => ?_) (fun c1598 => ?_))
      · refine wp_of e264 c264_82 (rw_iload (pc' := 84) (z := v1581) rfl rfl ?_)
        exact wp_ireturn e264 c264_84 rfl ⟨rfl, w1584, f1594, v1581, rfl, ⟨by omega, by omega⟩, (by
          rw [show v1581 = xtr (decide (a3 ≠ 0)) (xwf e d) (fun n => (xpt d (xlot d ((n : Nat) : Int)) (a1).toNat).2) (xlots d).toNat by rw [xtr_end (u := u1583) (by omega) (by omega)]; assumption]
          exact xtr_ex _ (by omega))⟩
      · obtain ⟨h9, _a, _b, _c, _e, _f⟩ := xcn_nx (f := xwf e d) (u := u1583) (xlots d).toNat (by omega) (by omega)
        have _n9 : xcn (xwf e d) (h9 + 1) = xcn (xwf e d) h9 + 1 := by
          show xcn (xwf e d) h9 + (if xwf e d h9 > 0 then 1 else 0) = _
          rw [if_pos _c]
        refine wp_of e264 c264_15 (rw_aload_n (pc' := 16) (v := .ref r0) rfl rfl rfl ?_)
        refine wp_of e264 c264_16 (rw_aload_n (pc' := 17) (v := .ref r0) rfl rfl rfl ?_)
        refine wp_of e264 c264_17 (xg_R (pc' := 20) lf_9_42 w1584 g0 sh_42 (by decide) (by decide) ty_42_30 rfl rfl (fun r1599 q1600 g1601 => ?_))
        refine wp_of e264 c264_20 (rw_iload (pc' := 22) (z := v1580) rfl rfl ?_)
        refine wp_of e264 c264_22 (xa_I (so := 0) (pc' := 23) w1584 g1601 sh_52 (by decide) (ty_52 _) (by omega) (by omega) rfl (fun b1602 b1603 => ?_))
        have _kl := KL_at h1589 q1600 (n := h9) (s := (v1580).toNat) (by omega) _c (by omega)
        have _t9 : H1582 r1599 (v1580.toNat) = ((h9 : Nat) : Int) := by omega
        have _slw : SL d (xlot d ((h9 : Nat) : Int)) := SL_lot _xw.1 (by omega) (by omega)
        have k1604 : H1582 r0 3 = H r0 3 := (f1585 r0 3 _ g0 rfl)
        have q1605 : H1582 r0 3 = (pp : Int) := k1604.trans qpp
        have k1606 : wLM H1582 r0 = wLM H r0 := (wLM_fr hW g0 f1585 rfl)
        have h1607 : RB T H1582 r0 e d := (RB_fr hW g0 f1585 rfl hRB_r0)
        refine wp_of e264 c264_23 (xc_V (pc' := 26) (r := r0) (as := [vI (H1582 r1599 (v1580.toNat))]) (st := []) (lm_9_425) rfl rfl (Nat.le_of_ble_eq_true rfl) w1584 g0 sh_42 (by decide) rfl (by decide) (u_243 (e := e) (d := d) w1584 g0 ⟨by omega, by omega⟩ q1605 gpp (by omega) h1607) (fun R1608 T1609 H1610 p1611 => ?_))
        obtain ⟨e1612, w1614, f1615, e1613, p1616⟩ := p1611
        subst e1612
        subst e1613
        have f1618 := f1594.tr f1615 rfl
        have f1619 := f1585.tr f1615 rfl
        show wp _ _ 264 26 [(5, vI v1580), (4, vI v1581), (0, .ref r0), (1, vI a1), (2, .ref r2), (3, vI a3)] [] _ H1610 _
        have h1620 : LQ27 T H1610 r0 0 (d 0 3) (xlot d ((h9 : Nat) : Int)) := by rw [← _t9]; exact p1616
        have _sx := _slw (a1).toNat (by omega)
        refine wp_of e264 c264_26 (rw_aload_n (pc' := 27) (v := .ref r2) rfl rfl rfl ?_)
        refine wp_of e264 c264_27 (rw_bipush (pc' := 29) (z := 40) rfl (by decide) ?_)
        refine wp_of e264 c264_29 (rw_iload_n (pc' := 30) (z := a1) rfl rfl ?_)
        refine wp_of e264 c264_30 (rw_imul (pc' := 31) rfl ?_)
        refine wp_of e264 c264_31 (rw_aload_n (pc' := 32) (v := .ref r0) rfl rfl rfl ?_)
        refine wp_of e264 c264_32 (xg_R (pc' := 35) lf_9_39 w1614 g0 sh_42 (by decide) (by decide) ty_42_27 rfl rfl (fun r1621 q1622 g1623 => ?_))
        refine wp_of e264 c264_35 (rw_iload_n (pc' := 36) (z := a1) rfl rfl ?_)
        refine wp_of e264 c264_36 (xa_I (so := 0) (pc' := 37) w1614 g1623 sh_51 (by decide) (ty_51 _) (by omega) (by omega) rfl (fun b1624 b1625 => ?_))
        have := LR_at h1620 q1622 (k := (a1.toNat)) (by omega) (by omega)
        refine wp_of e264 c264_37 (rw_iadd (pc' := 38) rfl ?_)
        have h1626 : RMl T H1610 r2 (40 * (a1).toNat) ((xsp d (a1).toNat).length : Int) (fun i => ((xsp d (a1).toNat).getD i (0, 0)).2) := (RMl_fr w1584 g2 f1615 rfl (RMl_fr hW g2 f1585 rfl hRMl_r2))
        have _rm : H1610 r2 ((40 * a1) + (H1610 r1621 (a1.toNat))).toNat = (xpt d (xlot d ((h9 : Nat) : Int)) (a1).toNat).2 := by
          rw [show ((40 * a1) + (H1610 r1621 (a1.toNat))).toNat = 40 * (a1).toNat + (xlot d ((h9 : Nat) : Int) (a1).toNat).toNat by omega]
          exact h1626 _ (by omega)
        refine wp_of e264 c264_38 (xa_I (so := 0) (pc' := 39) w1614 g2 sh_47 (by decide) (ty_47 _) (by omega) (by omega) rfl (fun b1627 b1628 => ?_))
        refine wp_of e264 c264_39 (rw_istore (pc' := 41) (z := H1610 r2 (((40 * a1) + (H1610 r1621 (a1.toNat))).toNat)) (L' := [(6, vI (H1610 r2 (((40 * a1) + (H1610 r1621 (a1.toNat))).toNat))), (5, vI v1580), (4, vI v1581), (0, .ref r0), (1, vI a1), (2, .ref r2), (3, vI a3)]) rfl rfl rfl ?_)
        refine wp_of e264 c264_41 (rw_iload (pc' := 43) (z := v1580) rfl rfl ?_)
        refine wp_of e264 c264_43 (rw_if_eq (p1 := 67) (p2 := 46) (by decide) rfl ⟨by omega, by omega⟩ (fun c1629 => ?_) (fun c1629 => ?_))
        · refine wp_of e264 c264_67 (rw_iload (pc' := 69) (z := H1610 r2 (((40 * a1) + (H1610 r1621 (a1.toNat))).toNat)) rfl rfl ?_)
          refine wp_of e264 c264_69 (rw_goto (p1 := 74) (by decide) ?_)
          refine wp_of e264 c264_74 (rw_istore (pc' := 76) (z := H1610 r2 (((40 * a1) + (H1610 r1621 (a1.toNat))).toNat)) (L' := [(4, vI (H1610 r2 (((40 * a1) + (H1610 r1621 (a1.toNat))).toNat))), (6, vI (H1610 r2 (((40 * a1) + (H1610 r1621 (a1.toNat))).toNat))), (5, vI v1580), (0, .ref r0), (1, vI a1), (2, .ref r2), (3, vI a3)]) rfl rfl rfl ?_)
          have _gp : xtr (decide (a3 ≠ 0)) (xwf e d) (fun n => (xpt d (xlot d ((n : Nat) : Int)) (a1).toNat).2) h9 = v1581 := by
            rw [xtr_gap _a _f]
            exact (‹v1581 = xtr (decide (a3 ≠ 0)) (xwf e d) (fun n => (xpt d (xlot d ((n : Nat) : Int)) (a1).toNat).2) u1583›).symm
          have _vv : (H1610 r2 (((40 * a1) + (H1610 r1621 (a1.toNat))).toNat)) = (fun n => (xpt d (xlot d ((n : Nat) : Int)) (a1).toNat).2) h9 := by show _ = (xpt d (xlot d ((h9 : Nat) : Int)) (a1).toNat).2; omega
          have _q : H1610 r2 (((40 * a1) + (H1610 r1621 (a1.toNat))).toNat) = xtr (decide (a3 ≠ 0)) (xwf e d) (fun n => (xpt d (xlot d ((n : Nat) : Int)) (a1).toNat).2) (h9 + 1) := by
            rw [xtr_y _c, _gp, ← _vv]
            first
            | rw [if_pos (Or.inl (by omega))]
            | rw [if_pos (Or.inr (by rw [if_pos (decide_eq_true (by omega))]; omega))]
            | rw [if_pos (Or.inr (by rw [if_neg (fun c9 => of_decide_eq_true c9 (by omega))]; omega))]
            | rw [if_neg (fun c8 => by
                rcases c8 with c8 | c8
                · omega
                · first
                  | (rw [if_pos (decide_eq_true (by omega))] at c8; omega)
                  | (rw [if_neg (fun c9 => of_decide_eq_true c9 (by omega))] at c8; omega))]
          refine wp_of e264 c264_76 (rw_iinc (pc' := 79) (z := v1580) (L' := [(5, vI (v1580 + 1)), (4, vI (H1610 r2 (((40 * a1) + (H1610 r1621 (a1.toNat))).toNat))), (6, vI (H1610 r2 (((40 * a1) + (H1610 r1621 (a1.toNat))).toNat))), (0, .ref r0), (1, vI a1), (2, .ref r2), (3, vI a3)]) rfl rfl rfl rfl ?_)
          refine wp_of e264 c264_79 (rw_goto (p1 := 6) (by decide) ?_)
          have k1630 : H1610 r0 29 = H1582 r0 29 := (f1615 r0 29 _ g0 rfl)
          have h1631 : KL T H1610 r0 (xwf e d) (xlots d).toNat := (KL_fr w1584 g0 f1615 rfl h1589)
          exact wp_lc (ks := [5, 4, 6, 0, 1, 2, 3]) (wl_c rfl (wl_c rfl (wl_c rfl (wl_c rfl (wl_c rfl (wl_c rfl wl_n)))))) rfl (by decide) (ih1579 _ (by omega) (v1580 + 1) (H1610 r2 (((40 * a1) + (H1610 r1621 (a1.toNat))).toNat)) H1610 ((h9 + 1)) w1614 f1619 ⟨by omega, by omega⟩ ⟨by omega, by omega⟩ h1631 (by omega) (by omega) (by omega) (_q) rfl)
        · refine wp_of e264 c264_46 (rw_iload_n (pc' := 47) (z := a3) rfl rfl ?_)
          refine wp_of e264 c264_47 (rw_if_eq (p1 := 60) (p2 := 50) (by decide) rfl ⟨by omega, by omega⟩ (fun c1632 => ?_) (fun c1632 => ?_))
          · refine wp_of e264 c264_60 (rw_iload (pc' := 62) (z := H1610 r2 (((40 * a1) + (H1610 r1621 (a1.toNat))).toNat)) rfl rfl ?_)
            refine wp_of e264 c264_62 (rw_iload (pc' := 64) (z := v1581) rfl rfl ?_)
            refine wp_of e264 c264_64 (rw_icmp_ge (p1 := 72) (p2 := 67) (by decide) rfl ⟨by omega, by omega⟩ ⟨by omega, by omega⟩ (fun c1633 => ?_) (fun c1633 => ?_))
            · refine wp_of e264 c264_72 (rw_iload (pc' := 74) (z := v1581) rfl rfl ?_)
              refine wp_of e264 c264_74 (rw_istore (pc' := 76) (z := v1581) (L' := [(4, vI v1581), (6, vI (H1610 r2 (((40 * a1) + (H1610 r1621 (a1.toNat))).toNat))), (5, vI v1580), (0, .ref r0), (1, vI a1), (2, .ref r2), (3, vI a3)]) rfl rfl rfl ?_)
              have _gp : xtr (decide (a3 ≠ 0)) (xwf e d) (fun n => (xpt d (xlot d ((n : Nat) : Int)) (a1).toNat).2) h9 = v1581 := by
                rw [xtr_gap _a _f]
                exact (‹v1581 = xtr (decide (a3 ≠ 0)) (xwf e d) (fun n => (xpt d (xlot d ((n : Nat) : Int)) (a1).toNat).2) u1583›).symm
              have _vv : (H1610 r2 (((40 * a1) + (H1610 r1621 (a1.toNat))).toNat)) = (fun n => (xpt d (xlot d ((n : Nat) : Int)) (a1).toNat).2) h9 := by show _ = (xpt d (xlot d ((h9 : Nat) : Int)) (a1).toNat).2; omega
              have _q : v1581 = xtr (decide (a3 ≠ 0)) (xwf e d) (fun n => (xpt d (xlot d ((n : Nat) : Int)) (a1).toNat).2) (h9 + 1) := by
                rw [xtr_y _c, _gp, ← _vv]
                first
                | rw [if_pos (Or.inl (by omega))]
                | rw [if_pos (Or.inr (by rw [if_pos (decide_eq_true (by omega))]; omega))]
                | rw [if_pos (Or.inr (by rw [if_neg (fun c9 => of_decide_eq_true c9 (by omega))]; omega))]
                | rw [if_neg (fun c8 => by
                    rcases c8 with c8 | c8
                    · omega
                    · first
                      | (rw [if_pos (decide_eq_true (by omega))] at c8; omega)
                      | (rw [if_neg (fun c9 => of_decide_eq_true c9 (by omega))] at c8; omega))]
              refine wp_of e264 c264_76 (rw_iinc (pc' := 79) (z := v1580) (L' := [(5, vI (v1580 + 1)), (4, vI v1581), (6, vI (H1610 r2 (((40 * a1) + (H1610 r1621 (a1.toNat))).toNat))), (0, .ref r0), (1, vI a1), (2, .ref r2), (3, vI a3)]) rfl rfl rfl rfl ?_)
              refine wp_of e264 c264_79 (rw_goto (p1 := 6) (by decide) ?_)
              have k1634 : H1610 r0 29 = H1582 r0 29 := (f1615 r0 29 _ g0 rfl)
              have h1635 : KL T H1610 r0 (xwf e d) (xlots d).toNat := (KL_fr w1584 g0 f1615 rfl h1589)
              exact wp_lc (ks := [5, 4, 6, 0, 1, 2, 3]) (wl_c rfl (wl_c rfl (wl_c rfl (wl_c rfl (wl_c rfl (wl_c rfl wl_n)))))) rfl (by decide) (ih1579 _ (by omega) (v1580 + 1) v1581 H1610 ((h9 + 1)) w1614 f1619 ⟨by omega, by omega⟩ ⟨by omega, by omega⟩ h1635 (by omega) (by omega) (by omega) (_q) rfl)
            · refine wp_of e264 c264_67 (rw_iload (pc' := 69) (z := H1610 r2 (((40 * a1) + (H1610 r1621 (a1.toNat))).toNat)) rfl rfl ?_)
              refine wp_of e264 c264_69 (rw_goto (p1 := 74) (by decide) ?_)
              refine wp_of e264 c264_74 (rw_istore (pc' := 76) (z := H1610 r2 (((40 * a1) + (H1610 r1621 (a1.toNat))).toNat)) (L' := [(4, vI (H1610 r2 (((40 * a1) + (H1610 r1621 (a1.toNat))).toNat))), (6, vI (H1610 r2 (((40 * a1) + (H1610 r1621 (a1.toNat))).toNat))), (5, vI v1580), (0, .ref r0), (1, vI a1), (2, .ref r2), (3, vI a3)]) rfl rfl rfl ?_)
              have _gp : xtr (decide (a3 ≠ 0)) (xwf e d) (fun n => (xpt d (xlot d ((n : Nat) : Int)) (a1).toNat).2) h9 = v1581 := by
                rw [xtr_gap _a _f]
                exact (‹v1581 = xtr (decide (a3 ≠ 0)) (xwf e d) (fun n => (xpt d (xlot d ((n : Nat) : Int)) (a1).toNat).2) u1583›).symm
              have _vv : (H1610 r2 (((40 * a1) + (H1610 r1621 (a1.toNat))).toNat)) = (fun n => (xpt d (xlot d ((n : Nat) : Int)) (a1).toNat).2) h9 := by show _ = (xpt d (xlot d ((h9 : Nat) : Int)) (a1).toNat).2; omega
              have _q : H1610 r2 (((40 * a1) + (H1610 r1621 (a1.toNat))).toNat) = xtr (decide (a3 ≠ 0)) (xwf e d) (fun n => (xpt d (xlot d ((n : Nat) : Int)) (a1).toNat).2) (h9 + 1) := by
                rw [xtr_y _c, _gp, ← _vv]
                first
                | rw [if_pos (Or.inl (by omega))]
                | rw [if_pos (Or.inr (by rw [if_pos (decide_eq_true (by omega))]; omega))]
                | rw [if_pos (Or.inr (by rw [if_neg (fun c9 => of_decide_eq_true c9 (by omega))]; omega))]
                | rw [if_neg (fun c8 => by
                    rcases c8 with c8 | c8
                    · omega
                    · first
                      | (rw [if_pos (decide_eq_true (by omega))] at c8; omega)
                      | (rw [if_neg (fun c9 => of_decide_eq_true c9 (by omega))] at c8; omega))]
              refine wp_of e264 c264_76 (rw_iinc (pc' := 79) (z := v1580) (L' := [(5, vI (v1580 + 1)), (4, vI (H1610 r2 (((40 * a1) + (H1610 r1621 (a1.toNat))).toNat))), (6, vI (H1610 r2 (((40 * a1) + (H1610 r1621 (a1.toNat))).toNat))), (0, .ref r0), (1, vI a1), (2, .ref r2), (3, vI a3)]) rfl rfl rfl rfl ?_)
              refine wp_of e264 c264_79 (rw_goto (p1 := 6) (by decide) ?_)
              have k1636 : H1610 r0 29 = H1582 r0 29 := (f1615 r0 29 _ g0 rfl)
              have h1637 : KL T H1610 r0 (xwf e d) (xlots d).toNat := (KL_fr w1584 g0 f1615 rfl h1589)
              exact wp_lc (ks := [5, 4, 6, 0, 1, 2, 3]) (wl_c rfl (wl_c rfl (wl_c rfl (wl_c rfl (wl_c rfl (wl_c rfl wl_n)))))) rfl (by decide) (ih1579 _ (by omega) (v1580 + 1) (H1610 r2 (((40 * a1) + (H1610 r1621 (a1.toNat))).toNat)) H1610 ((h9 + 1)) w1614 f1619 ⟨by omega, by omega⟩ ⟨by omega, by omega⟩ h1637 (by omega) (by omega) (by omega) (_q) rfl)
          · refine wp_of e264 c264_50 (rw_iload (pc' := 52) (z := H1610 r2 (((40 * a1) + (H1610 r1621 (a1.toNat))).toNat)) rfl rfl ?_)
            refine wp_of e264 c264_52 (rw_iload (pc' := 54) (z := v1581) rfl rfl ?_)
            refine wp_of e264 c264_54 (rw_icmp_le (p1 := 72) (p2 := 57) (by decide) rfl ⟨by omega, by omega⟩ ⟨by omega, by omega⟩ (fun c1638 => ?_) (fun c1638 => ?_))
            · refine wp_of e264 c264_72 (rw_iload (pc' := 74) (z := v1581) rfl rfl ?_)
              refine wp_of e264 c264_74 (rw_istore (pc' := 76) (z := v1581) (L' := [(4, vI v1581), (6, vI (H1610 r2 (((40 * a1) + (H1610 r1621 (a1.toNat))).toNat))), (5, vI v1580), (0, .ref r0), (1, vI a1), (2, .ref r2), (3, vI a3)]) rfl rfl rfl ?_)
              have _gp : xtr (decide (a3 ≠ 0)) (xwf e d) (fun n => (xpt d (xlot d ((n : Nat) : Int)) (a1).toNat).2) h9 = v1581 := by
                rw [xtr_gap _a _f]
                exact (‹v1581 = xtr (decide (a3 ≠ 0)) (xwf e d) (fun n => (xpt d (xlot d ((n : Nat) : Int)) (a1).toNat).2) u1583›).symm
              have _vv : (H1610 r2 (((40 * a1) + (H1610 r1621 (a1.toNat))).toNat)) = (fun n => (xpt d (xlot d ((n : Nat) : Int)) (a1).toNat).2) h9 := by show _ = (xpt d (xlot d ((h9 : Nat) : Int)) (a1).toNat).2; omega
              have _q : v1581 = xtr (decide (a3 ≠ 0)) (xwf e d) (fun n => (xpt d (xlot d ((n : Nat) : Int)) (a1).toNat).2) (h9 + 1) := by
                rw [xtr_y _c, _gp, ← _vv]
                first
                | rw [if_pos (Or.inl (by omega))]
                | rw [if_pos (Or.inr (by rw [if_pos (decide_eq_true (by omega))]; omega))]
                | rw [if_pos (Or.inr (by rw [if_neg (fun c9 => of_decide_eq_true c9 (by omega))]; omega))]
                | rw [if_neg (fun c8 => by
                    rcases c8 with c8 | c8
                    · omega
                    · first
                      | (rw [if_pos (decide_eq_true (by omega))] at c8; omega)
                      | (rw [if_neg (fun c9 => of_decide_eq_true c9 (by omega))] at c8; omega))]
              refine wp_of e264 c264_76 (rw_iinc (pc' := 79) (z := v1580) (L' := [(5, vI (v1580 + 1)), (4, vI v1581), (6, vI (H1610 r2 (((40 * a1) + (H1610 r1621 (a1.toNat))).toNat))), (0, .ref r0), (1, vI a1), (2, .ref r2), (3, vI a3)]) rfl rfl rfl rfl ?_)
              refine wp_of e264 c264_79 (rw_goto (p1 := 6) (by decide) ?_)
              have k1639 : H1610 r0 29 = H1582 r0 29 := (f1615 r0 29 _ g0 rfl)
              have h1640 : KL T H1610 r0 (xwf e d) (xlots d).toNat := (KL_fr w1584 g0 f1615 rfl h1589)
              exact wp_lc (ks := [5, 4, 6, 0, 1, 2, 3]) (wl_c rfl (wl_c rfl (wl_c rfl (wl_c rfl (wl_c rfl (wl_c rfl wl_n)))))) rfl (by decide) (ih1579 _ (by omega) (v1580 + 1) v1581 H1610 ((h9 + 1)) w1614 f1619 ⟨by omega, by omega⟩ ⟨by omega, by omega⟩ h1640 (by omega) (by omega) (by omega) (_q) rfl)
            · refine wp_of e264 c264_57 (rw_goto (p1 := 67) (by decide) ?_)
              refine wp_of e264 c264_67 (rw_iload (pc' := 69) (z := H1610 r2 (((40 * a1) + (H1610 r1621 (a1.toNat))).toNat)) rfl rfl ?_)
              refine wp_of e264 c264_69 (rw_goto (p1 := 74) (by decide) ?_)
              refine wp_of e264 c264_74 (rw_istore (pc' := 76) (z := H1610 r2 (((40 * a1) + (H1610 r1621 (a1.toNat))).toNat)) (L' := [(4, vI (H1610 r2 (((40 * a1) + (H1610 r1621 (a1.toNat))).toNat))), (6, vI (H1610 r2 (((40 * a1) + (H1610 r1621 (a1.toNat))).toNat))), (5, vI v1580), (0, .ref r0), (1, vI a1), (2, .ref r2), (3, vI a3)]) rfl rfl rfl ?_)
              have _gp : xtr (decide (a3 ≠ 0)) (xwf e d) (fun n => (xpt d (xlot d ((n : Nat) : Int)) (a1).toNat).2) h9 = v1581 := by
                rw [xtr_gap _a _f]
                exact (‹v1581 = xtr (decide (a3 ≠ 0)) (xwf e d) (fun n => (xpt d (xlot d ((n : Nat) : Int)) (a1).toNat).2) u1583›).symm
              have _vv : (H1610 r2 (((40 * a1) + (H1610 r1621 (a1.toNat))).toNat)) = (fun n => (xpt d (xlot d ((n : Nat) : Int)) (a1).toNat).2) h9 := by show _ = (xpt d (xlot d ((h9 : Nat) : Int)) (a1).toNat).2; omega
              have _q : H1610 r2 (((40 * a1) + (H1610 r1621 (a1.toNat))).toNat) = xtr (decide (a3 ≠ 0)) (xwf e d) (fun n => (xpt d (xlot d ((n : Nat) : Int)) (a1).toNat).2) (h9 + 1) := by
                rw [xtr_y _c, _gp, ← _vv]
                first
                | rw [if_pos (Or.inl (by omega))]
                | rw [if_pos (Or.inr (by rw [if_pos (decide_eq_true (by omega))]; omega))]
                | rw [if_pos (Or.inr (by rw [if_neg (fun c9 => of_decide_eq_true c9 (by omega))]; omega))]
                | rw [if_neg (fun c8 => by
                    rcases c8 with c8 | c8
                    · omega
                    · first
                      | (rw [if_pos (decide_eq_true (by omega))] at c8; omega)
                      | (rw [if_neg (fun c9 => of_decide_eq_true c9 (by omega))] at c8; omega))]
              refine wp_of e264 c264_76 (rw_iinc (pc' := 79) (z := v1580) (L' := [(5, vI (v1580 + 1)), (4, vI (H1610 r2 (((40 * a1) + (H1610 r1621 (a1.toNat))).toNat))), (6, vI (H1610 r2 (((40 * a1) + (H1610 r1621 (a1.toNat))).toNat))), (0, .ref r0), (1, vI a1), (2, .ref r2), (3, vI a3)]) rfl rfl rfl rfl ?_)
              refine wp_of e264 c264_79 (rw_goto (p1 := 6) (by decide) ?_)
              have k1641 : H1610 r0 29 = H1582 r0 29 := (f1615 r0 29 _ g0 rfl)
              have h1642 : KL T H1610 r0 (xwf e d) (xlots d).toNat := (KL_fr w1584 g0 f1615 rfl h1589)
              exact wp_lc (ks := [5, 4, 6, 0, 1, 2, 3]) (wl_c rfl (wl_c rfl (wl_c rfl (wl_c rfl (wl_c rfl (wl_c rfl wl_n)))))) rfl (by decide) (ih1579 _ (by omega) (v1580 + 1) (H1610 r2 (((40 * a1) + (H1610 r1621 (a1.toNat))).toNat)) H1610 ((h9 + 1)) w1614 f1619 ⟨by omega, by omega⟩ ⟨by omega, by omega⟩ h1642 (by omega) (by omega) (by omega) (_q) rfl)
  exact wp_lc (ks := [5, 4, 0, 1, 2, 3]) (wl_c rfl (wl_c rfl (wl_c rfl (wl_c rfl (wl_c rfl (wl_c rfl wl_n)))))) rfl (by decide) (lp1577 _ 0 0 H 0 hW wfr.rf ⟨by omega, by omega⟩ ⟨by omega, by omega⟩ h1307 (by omega) (by omega) (rfl) (rfl) rfl)
/-! StrikeAwakeModel.worlds()I  -/
abbrev uq_240 (r0 : Nat) (e : xD) (d : xD) (T : wq_T) (H : wq_H) : Option Value → wq_T → wq_H → Prop := fun r T' H' => T = T' ∧ WT T H' ∧ wfr [(42, 0), (42, 1), (42, 2), (42, 28), (42, 29), (51, 999), (52, 999)] T H H' ∧ ∃ z : Int, some (vI z) = r ∧ ((-2147483648) ≤ z ∧ z ≤ 2147483647) ∧ (((z = -1) ∧ (wKI H' r0 = 1) ∧ (H r0 3 = -1 ∨ 20000 < xlots d) ∧ KNN T H' r0 e d) ∨ ((wKI H' r0 = 1) ∧ (H r0 3 ≠ -1 ∧ xlots d ≤ 20000) ∧ (z = xcn (xwf e d) (xlots d).toNat) ∧ KNN T H' r0 e d))
set_option maxHeartbeats 4000000 in
theorem u_240 {kt : Nat → Option mc_E} {T : wq_T} {H : wq_H} {r0 : Nat} {e : xD} {d : xD} (hW : WT T H) (g0 : T.2.2.2 r0 = some 42) (p0 : wKI H r0 = 1) (p1 : XW d) (p2 : ∀ h : Nat, d 0 0 ≤ (h : Int) → h < 24 → e 13 h = 0) (p3 : XN d) (p4 : ∀ h : Nat, h < 24 → 0 ≤ e 13 h ∧ e 13 h ≤ 100) (hRB_r0 : RB T H r0 e d) (hKNN_r0 : KNN T H r0 e d) : wpc kt 8 240 [.ref r0] T H (uq_240 r0 e d T H) := by
  refine wp_enter e240 (Nat.le_of_ble_eq_true rfl) rfl ?_
  have f0 : wfr [(42, 0), (42, 1), (42, 2), (42, 28), (42, 29), (51, 999), (52, 999)] T H H := wfr.rf
  show wp _ _ 240 0 [(0, .ref r0)] [] _ H _
  have _b := RB_b hW hRB_r0
  have _nu := RB_n3 hRB_r0
  have _lm := RB_lm hRB_r0
  refine wp_of e240 c240_0 (rw_aload_n (pc' := 1) (v := .ref r0) rfl rfl rfl ?_)
  refine wp_of e240 c240_1 (rw_iconst (pc' := 2) rfl ?_)
  refine wp_of e240 c240_2 (xp_I (pc' := 5) lf_9_48 hW g0 sh_42 (by decide) (by decide) ty_42_0 rfl rfl (by omega) (by omega) ⟨by omega, by omega⟩ rfl (fun H1138 e1139 w1140 => ?_))
  have f1141 := f0.put' e1139 g0 rfl
  have k1142 : H1138 r0 0 = 0 := wq_u_s e1139
  refine wp_of e240 c240_5 (rw_aload_n (pc' := 6) (v := .ref r0) rfl rfl rfl ?_)
  refine wp_of e240 c240_6 (rw_aload_n (pc' := 7) (v := .ref r0) rfl rfl rfl ?_)
  have k1143 : H1138 r0 3 = H r0 3 := (wq_u_j e1139 rfl)
  refine wp_of e240 c240_7 (xg_O (pc' := 10) lf_9_337 w1140 g0 sh_42 (by decide) (by decide) ty_42_3 rfl rfl (fun q1145 => ?_) (fun r1144 q1145 g1146 => ?_))
  · refine wp_of e240 c240_10 (rw_ifnull_n (p1 := 17) (p2 := 13) (by decide) rfl ?_)
    refine wp_of e240 c240_17 (rw_iconst (pc' := 18) rfl ?_)
    have k1147 : wKI H1138 r0 = wKI H r0 := (wKI_fr hW g0 ((wfr.rf (l := [(42, 0)])).put' e1139 g0 rfl) rfl)
    have h1148 : RB T H1138 r0 e d := (RB_fr hW g0 ((wfr.rf (l := [(42, 0)])).put' e1139 g0 rfl) rfl hRB_r0)
    have h1149 : KNN T H1138 r0 e d := (KNN_fr hW g0 ((wfr.rf (l := [(42, 0)])).put' e1139 g0 rfl) rfl hKNN_r0)
    refine wp_of e240 c240_18 (xc_V (pc' := 21) (r := r0) (as := [vI 0]) (st := []) (lm_9_433) rfl rfl (Nat.le_of_ble_eq_true rfl) w1140 g0 sh_42 (by decide) rfl (by decide) (u_241 (e := e) (d := d) w1140 g0 ⟨by omega, by omega⟩ (by omega) (by omega) (by assumption) (by assumption) (by assumption) (by assumption) h1148 h1149) (fun R1150 T1151 H1152 p1153 => ?_))
    obtain ⟨e1154, w1156, f1157, z1158, e1155, b1159, p1160⟩ := p1153
    subst e1154
    subst e1155
    rcases p1160 with ⟨a1161, a1162, a1163, a1164, a1165, a1166, a1167, a1168, a1169⟩ | ⟨a1170, a1171, a1172, a1173, a1174, a1175, a1176⟩
    · have f1177 := f1141.tr f1157 rfl
      show wp _ _ 240 21 [(0, .ref r0)] [vI z1158] _ H1152 _
      refine wp_of e240 c240_21 (rw_istore_n (pc' := 22) (z := z1158) (L' := [(1, vI z1158), (0, .ref r0)]) rfl rfl rfl ?_)
      refine wp_of e240 c240_22 (rw_iload_n (pc' := 23) (z := z1158) rfl rfl ?_)
      refine wp_of e240 c240_23 (rw_if_le (p1 := 34) (p2 := 26) (by decide) rfl ⟨by omega, by omega⟩ (fun c1178 => ?_) (fun c1178 => ?_))
      · have _kb := (a1169).1
        refine wp_of e240 c240_34 (rw_aload_n (pc' := 35) (v := .ref r0) rfl rfl rfl ?_)
        refine wp_of e240 c240_35 (rw_aload_n (pc' := 36) (v := .ref r0) rfl rfl rfl ?_)
        refine wp_of e240 c240_36 (xg_I (pc' := 39) lf_9_422 w1156 g0 sh_42 (by decide) (by decide) ty_42_29 rfl rfl (fun b1179 b1180 => ?_))
        refine wp_of e240 c240_39 (xc_V (pc' := 42) (r := r0) (as := [vI (H1152 r0 29)]) (st := []) (lm_9_58) rfl rfl (Nat.le_of_ble_eq_true rfl) w1156 g0 sh_42 (by decide) rfl (by decide) (u_209  w1156 g0 ⟨by omega, by omega⟩) (fun R1181 T1182 H1183 p1184 => ?_))
        obtain ⟨e1185, w1187, f1188, z1189, e1186, b1190, p1191⟩ := p1184
        subst e1185
        subst e1186
        obtain ⟨a1192, a1193, a1194⟩ := p1191
        have f1195 := f1177.tr f1188 rfl
        show wp _ _ 240 42 [(1, vI z1158), (0, .ref r0)] [vI z1189] _ H1183 _
        have k1196 : wKI H1183 r0 = wKI H1152 r0 := (wKI_fr w1156 g0 f1188 rfl)
        have h1197 : KNN T H1183 r0 e d := (KNN_fr w1156 g0 f1188 rfl a1168)
        exact wp_ireturn e240 c240_42 rfl ⟨rfl, w1187, f1195, z1189, rfl, ⟨by omega, by omega⟩, (Or.inr ⟨by omega, by omega, by omega, h1197⟩)⟩
      · exfalso
        omega
    · have f1198 := f1141.tr f1157 rfl
      show wp _ _ 240 21 [(0, .ref r0)] [vI z1158] _ H1152 _
      refine wp_of e240 c240_21 (rw_istore_n (pc' := 22) (z := z1158) (L' := [(1, vI z1158), (0, .ref r0)]) rfl rfl rfl ?_)
      refine wp_of e240 c240_22 (rw_iload_n (pc' := 23) (z := z1158) rfl rfl ?_)
      refine wp_of e240 c240_23 (rw_if_le (p1 := 34) (p2 := 26) (by decide) rfl ⟨by omega, by omega⟩ (fun c1199 => ?_) (fun c1199 => ?_))
      · exfalso
        omega
      · refine wp_of e240 c240_26 (rw_aload_n (pc' := 27) (v := .ref r0) rfl rfl rfl ?_)
        refine wp_of e240 c240_27 (rw_iload_n (pc' := 28) (z := z1158) rfl rfl ?_)
        refine wp_of e240 c240_28 (xc_V (pc' := 31) (r := r0) (as := [vI z1158]) (st := []) (lm_9_54) rfl rfl (Nat.le_of_ble_eq_true rfl) w1156 g0 sh_42 (by decide) rfl (by decide) (u_170  w1156 g0 ⟨by omega, by omega⟩) (fun R1200 T1201 H1202 p1203 => ?_))
        obtain ⟨e1204, w1206, f1207, z1208, e1205, b1209, p1210⟩ := p1203
        subst e1204
        subst e1205
        obtain ⟨a1211, a1212, a1213⟩ := p1210
        have f1214 := f1198.tr f1207 rfl
        show wp _ _ 240 31 [(1, vI z1158), (0, .ref r0)] [vI z1208] _ H1202 _
        refine wp_of e240 c240_31 (rw_goto (p1 := 42) (by decide) ?_)
        have k1215 : wKI H1202 r0 = wKI H1152 r0 := (wKI_fr w1156 g0 f1207 rfl)
        have h1216 : KNN T H1202 r0 e d := (KNN_fr w1156 g0 f1207 rfl a1176)
        exact wp_ireturn e240 c240_42 rfl ⟨rfl, w1206, f1214, z1208, rfl, ⟨by omega, by omega⟩, (Or.inl ⟨by omega, by omega, by omega, h1216⟩)⟩
  · refine wp_of e240 c240_10 (rw_ifnull_r (p1 := 17) (p2 := 13) (by decide) rfl ?_)
    refine wp_of e240 c240_13 (rw_iconst (pc' := 14) rfl ?_)
    refine wp_of e240 c240_14 (rw_goto (p1 := 18) (by decide) ?_)
    have k1217 : wKI H1138 r0 = wKI H r0 := (wKI_fr hW g0 ((wfr.rf (l := [(42, 0)])).put' e1139 g0 rfl) rfl)
    have h1218 : RB T H1138 r0 e d := (RB_fr hW g0 ((wfr.rf (l := [(42, 0)])).put' e1139 g0 rfl) rfl hRB_r0)
    have h1219 : KNN T H1138 r0 e d := (KNN_fr hW g0 ((wfr.rf (l := [(42, 0)])).put' e1139 g0 rfl) rfl hKNN_r0)
    refine wp_of e240 c240_18 (xc_V (pc' := 21) (r := r0) (as := [vI 1]) (st := []) (lm_9_433) rfl rfl (Nat.le_of_ble_eq_true rfl) w1140 g0 sh_42 (by decide) rfl (by decide) (u_241 (e := e) (d := d) w1140 g0 ⟨by omega, by omega⟩ (by omega) (by omega) (by assumption) (by assumption) (by assumption) (by assumption) h1218 h1219) (fun R1220 T1221 H1222 p1223 => ?_))
    obtain ⟨e1224, w1226, f1227, z1228, e1225, b1229, p1230⟩ := p1223
    subst e1224
    subst e1225
    rcases p1230 with ⟨a1231, a1232, a1233, a1234, a1235, a1236, a1237, a1238, a1239⟩ | ⟨a1240, a1241, a1242, a1243, a1244, a1245, a1246⟩
    · have f1247 := f1141.tr f1227 rfl
      show wp _ _ 240 21 [(0, .ref r0)] [vI z1228] _ H1222 _
      refine wp_of e240 c240_21 (rw_istore_n (pc' := 22) (z := z1228) (L' := [(1, vI z1228), (0, .ref r0)]) rfl rfl rfl ?_)
      refine wp_of e240 c240_22 (rw_iload_n (pc' := 23) (z := z1228) rfl rfl ?_)
      refine wp_of e240 c240_23 (rw_if_le (p1 := 34) (p2 := 26) (by decide) rfl ⟨by omega, by omega⟩ (fun c1248 => ?_) (fun c1248 => ?_))
      · have _kb := (a1239).1
        refine wp_of e240 c240_34 (rw_aload_n (pc' := 35) (v := .ref r0) rfl rfl rfl ?_)
        refine wp_of e240 c240_35 (rw_aload_n (pc' := 36) (v := .ref r0) rfl rfl rfl ?_)
        refine wp_of e240 c240_36 (xg_I (pc' := 39) lf_9_422 w1226 g0 sh_42 (by decide) (by decide) ty_42_29 rfl rfl (fun b1249 b1250 => ?_))
        refine wp_of e240 c240_39 (xc_V (pc' := 42) (r := r0) (as := [vI (H1222 r0 29)]) (st := []) (lm_9_58) rfl rfl (Nat.le_of_ble_eq_true rfl) w1226 g0 sh_42 (by decide) rfl (by decide) (u_209  w1226 g0 ⟨by omega, by omega⟩) (fun R1251 T1252 H1253 p1254 => ?_))
        obtain ⟨e1255, w1257, f1258, z1259, e1256, b1260, p1261⟩ := p1254
        subst e1255
        subst e1256
        obtain ⟨a1262, a1263, a1264⟩ := p1261
        have f1265 := f1247.tr f1258 rfl
        show wp _ _ 240 42 [(1, vI z1228), (0, .ref r0)] [vI z1259] _ H1253 _
        have k1266 : wKI H1253 r0 = wKI H1222 r0 := (wKI_fr w1226 g0 f1258 rfl)
        have h1267 : KNN T H1253 r0 e d := (KNN_fr w1226 g0 f1258 rfl a1238)
        exact wp_ireturn e240 c240_42 rfl ⟨rfl, w1257, f1265, z1259, rfl, ⟨by omega, by omega⟩, (Or.inr ⟨by omega, by omega, by omega, h1267⟩)⟩
      · exfalso
        omega
    · have f1268 := f1141.tr f1227 rfl
      show wp _ _ 240 21 [(0, .ref r0)] [vI z1228] _ H1222 _
      refine wp_of e240 c240_21 (rw_istore_n (pc' := 22) (z := z1228) (L' := [(1, vI z1228), (0, .ref r0)]) rfl rfl rfl ?_)
      refine wp_of e240 c240_22 (rw_iload_n (pc' := 23) (z := z1228) rfl rfl ?_)
      refine wp_of e240 c240_23 (rw_if_le (p1 := 34) (p2 := 26) (by decide) rfl ⟨by omega, by omega⟩ (fun c1269 => ?_) (fun c1269 => ?_))
      · exfalso
        omega
      · refine wp_of e240 c240_26 (rw_aload_n (pc' := 27) (v := .ref r0) rfl rfl rfl ?_)
        refine wp_of e240 c240_27 (rw_iload_n (pc' := 28) (z := z1228) rfl rfl ?_)
        refine wp_of e240 c240_28 (xc_V (pc' := 31) (r := r0) (as := [vI z1228]) (st := []) (lm_9_54) rfl rfl (Nat.le_of_ble_eq_true rfl) w1226 g0 sh_42 (by decide) rfl (by decide) (u_170  w1226 g0 ⟨by omega, by omega⟩) (fun R1270 T1271 H1272 p1273 => ?_))
        obtain ⟨e1274, w1276, f1277, z1278, e1275, b1279, p1280⟩ := p1273
        subst e1274
        subst e1275
        obtain ⟨a1281, a1282, a1283⟩ := p1280
        have f1284 := f1268.tr f1277 rfl
        show wp _ _ 240 31 [(1, vI z1228), (0, .ref r0)] [vI z1278] _ H1272 _
        refine wp_of e240 c240_31 (rw_goto (p1 := 42) (by decide) ?_)
        have k1285 : wKI H1272 r0 = wKI H1222 r0 := (wKI_fr w1226 g0 f1277 rfl)
        have h1286 : KNN T H1272 r0 e d := (KNN_fr w1226 g0 f1277 rfl a1246)
        exact wp_ireturn e240 c240_42 rfl ⟨rfl, w1276, f1284, z1278, rfl, ⟨by omega, by omega⟩, (Or.inl ⟨by omega, by omega, by omega, h1286⟩)⟩
/-! StrikeAwakeModel.can()I  -/
abbrev uq_244 (r0 : Nat) (e : xD) (d : xD) (T : wq_T) (H : wq_H) : Option Value → wq_T → wq_H → Prop := fun r T' H' => T = T' ∧ WT T H' ∧ wfr [(42, 0), (42, 1), (42, 2), (42, 28), (42, 29), (51, 999), (52, 999)] T H H' ∧ ∃ z : Int, some (vI z) = r ∧ ((-2147483648) ≤ z ∧ z ≤ 2147483647) ∧ (((z = -1) ∧ (wKI H' r0 = 1) ∧ (H r0 3 = -1 ∨ 20000 < xlots d) ∧ KNN T H' r0 e d) ∨ ((0 ≤ z ∧ z ≤ 1) ∧ (wKI H' r0 = 1) ∧ (H r0 3 ≠ -1 ∧ xlots d ≤ 20000) ∧ ((z = 1 ∧ 0 < xcn (xwf e d) (xlots d).toNat) ∨ (z = 0 ∧ xcn (xwf e d) (xlots d).toNat ≤ 0)) ∧ KNN T H' r0 e d))
set_option maxHeartbeats 4000000 in
theorem u_244 {kt : Nat → Option mc_E} {T : wq_T} {H : wq_H} {r0 : Nat} {e : xD} {d : xD} (hW : WT T H) (g0 : T.2.2.2 r0 = some 42) (p0 : wKI H r0 = 1) (p1 : XW d) (p2 : ∀ h : Nat, d 0 0 ≤ (h : Int) → h < 24 → e 13 h = 0) (p3 : XN d) (p4 : ∀ h : Nat, h < 24 → 0 ≤ e 13 h ∧ e 13 h ≤ 100) (hRB_r0 : RB T H r0 e d) (hKNN_r0 : KNN T H r0 e d) : wpc kt 8 244 [.ref r0] T H (uq_244 r0 e d T H) := by
  refine wp_enter e244 (Nat.le_of_ble_eq_true rfl) rfl ?_
  have f0 : wfr [(42, 0), (42, 1), (42, 2), (42, 28), (42, 29), (51, 999), (52, 999)] T H H := wfr.rf
  show wp _ _ 244 0 [(0, .ref r0)] [] _ H _
  have _b := RB_b hW hRB_r0
  have _nu := RB_n3 hRB_r0
  have _lm := RB_lm hRB_r0
  refine wp_of e244 c244_0 (rw_aload_n (pc' := 1) (v := .ref r0) rfl rfl rfl ?_)
  refine wp_of e244 c244_1 (rw_iconst (pc' := 2) rfl ?_)
  refine wp_of e244 c244_2 (xp_I (pc' := 5) lf_9_48 hW g0 sh_42 (by decide) (by decide) ty_42_0 rfl rfl (by omega) (by omega) ⟨by omega, by omega⟩ rfl (fun H1170 e1171 w1172 => ?_))
  have f1173 := f0.put' e1171 g0 rfl
  have k1174 : H1170 r0 0 = 0 := wq_u_s e1171
  refine wp_of e244 c244_5 (rw_aload_n (pc' := 6) (v := .ref r0) rfl rfl rfl ?_)
  refine wp_of e244 c244_6 (rw_aload_n (pc' := 7) (v := .ref r0) rfl rfl rfl ?_)
  have k1175 : H1170 r0 3 = H r0 3 := (wq_u_j e1171 rfl)
  refine wp_of e244 c244_7 (xg_O (pc' := 10) lf_9_337 w1172 g0 sh_42 (by decide) (by decide) ty_42_3 rfl rfl (fun q1177 => ?_) (fun r1176 q1177 g1178 => ?_))
  · refine wp_of e244 c244_10 (rw_ifnull_n (p1 := 17) (p2 := 13) (by decide) rfl ?_)
    refine wp_of e244 c244_17 (rw_iconst (pc' := 18) rfl ?_)
    have k1179 : wKI H1170 r0 = wKI H r0 := (wKI_fr hW g0 ((wfr.rf (l := [(42, 0)])).put' e1171 g0 rfl) rfl)
    have h1180 : RB T H1170 r0 e d := (RB_fr hW g0 ((wfr.rf (l := [(42, 0)])).put' e1171 g0 rfl) rfl hRB_r0)
    have h1181 : KNN T H1170 r0 e d := (KNN_fr hW g0 ((wfr.rf (l := [(42, 0)])).put' e1171 g0 rfl) rfl hKNN_r0)
    refine wp_of e244 c244_18 (xc_V (pc' := 21) (r := r0) (as := [vI 0]) (st := []) (lm_9_433) rfl rfl (Nat.le_of_ble_eq_true rfl) w1172 g0 sh_42 (by decide) rfl (by decide) (u_241 (e := e) (d := d) w1172 g0 ⟨by omega, by omega⟩ (by omega) (by omega) (by assumption) (by assumption) (by assumption) (by assumption) h1180 h1181) (fun R1182 T1183 H1184 p1185 => ?_))
    obtain ⟨e1186, w1188, f1189, z1190, e1187, b1191, p1192⟩ := p1185
    subst e1186
    subst e1187
    rcases p1192 with ⟨a1193, a1194, a1195, a1196, a1197, a1198, a1199, a1200, a1201⟩ | ⟨a1202, a1203, a1204, a1205, a1206, a1207, a1208⟩
    · have f1209 := f1173.tr f1189 rfl
      show wp _ _ 244 21 [(0, .ref r0)] [vI z1190] _ H1184 _
      refine wp_of e244 c244_21 (rw_istore_n (pc' := 22) (z := z1190) (L' := [(1, vI z1190), (0, .ref r0)]) rfl rfl rfl ?_)
      refine wp_of e244 c244_22 (rw_iload_n (pc' := 23) (z := z1190) rfl rfl ?_)
      refine wp_of e244 c244_23 (rw_if_le (p1 := 34) (p2 := 26) (by decide) rfl ⟨by omega, by omega⟩ (fun c1210 => ?_) (fun c1210 => ?_))
      · have _kb := (a1201).1
        refine wp_of e244 c244_34 (rw_aload_n (pc' := 35) (v := .ref r0) rfl rfl rfl ?_)
        refine wp_of e244 c244_35 (rw_aload_n (pc' := 36) (v := .ref r0) rfl rfl rfl ?_)
        refine wp_of e244 c244_36 (xg_I (pc' := 39) lf_9_422 w1188 g0 sh_42 (by decide) (by decide) ty_42_29 rfl rfl (fun b1211 b1212 => ?_))
        refine wp_of e244 c244_39 (rw_if_le (p1 := 46) (p2 := 42) (by decide) rfl ⟨by omega, by omega⟩ (fun c1213 => ?_) (fun c1213 => ?_))
        · refine wp_of e244 c244_46 (rw_iconst (pc' := 47) rfl ?_)
          refine wp_of e244 c244_47 (xc_V (pc' := 50) (r := r0) (as := [vI 0]) (st := []) (lm_9_58) rfl rfl (Nat.le_of_ble_eq_true rfl) w1188 g0 sh_42 (by decide) rfl (by decide) (u_209  w1188 g0 ⟨by omega, by omega⟩) (fun R1214 T1215 H1216 p1217 => ?_))
          obtain ⟨e1218, w1220, f1221, z1222, e1219, b1223, p1224⟩ := p1217
          subst e1218
          subst e1219
          obtain ⟨a1225, a1226, a1227⟩ := p1224
          have f1228 := f1209.tr f1221 rfl
          show wp _ _ 244 50 [(1, vI z1190), (0, .ref r0)] [vI z1222] _ H1216 _
          have k1229 : wKI H1216 r0 = wKI H1184 r0 := (wKI_fr w1188 g0 f1221 rfl)
          have h1230 : KNN T H1216 r0 e d := (KNN_fr w1188 g0 f1221 rfl a1200)
          exact wp_ireturn e244 c244_50 rfl ⟨rfl, w1220, f1228, z1222, rfl, ⟨by omega, by omega⟩, (Or.inr ⟨by omega, by omega, by omega, by omega, h1230⟩)⟩
        · refine wp_of e244 c244_42 (rw_iconst (pc' := 43) rfl ?_)
          refine wp_of e244 c244_43 (rw_goto (p1 := 47) (by decide) ?_)
          refine wp_of e244 c244_47 (xc_V (pc' := 50) (r := r0) (as := [vI 1]) (st := []) (lm_9_58) rfl rfl (Nat.le_of_ble_eq_true rfl) w1188 g0 sh_42 (by decide) rfl (by decide) (u_209  w1188 g0 ⟨by omega, by omega⟩) (fun R1231 T1232 H1233 p1234 => ?_))
          obtain ⟨e1235, w1237, f1238, z1239, e1236, b1240, p1241⟩ := p1234
          subst e1235
          subst e1236
          obtain ⟨a1242, a1243, a1244⟩ := p1241
          have f1245 := f1209.tr f1238 rfl
          show wp _ _ 244 50 [(1, vI z1190), (0, .ref r0)] [vI z1239] _ H1233 _
          have k1246 : wKI H1233 r0 = wKI H1184 r0 := (wKI_fr w1188 g0 f1238 rfl)
          have h1247 : KNN T H1233 r0 e d := (KNN_fr w1188 g0 f1238 rfl a1200)
          exact wp_ireturn e244 c244_50 rfl ⟨rfl, w1237, f1245, z1239, rfl, ⟨by omega, by omega⟩, (Or.inr ⟨by omega, by omega, by omega, by omega, h1247⟩)⟩
      · exfalso
        omega
    · have f1248 := f1173.tr f1189 rfl
      show wp _ _ 244 21 [(0, .ref r0)] [vI z1190] _ H1184 _
      refine wp_of e244 c244_21 (rw_istore_n (pc' := 22) (z := z1190) (L' := [(1, vI z1190), (0, .ref r0)]) rfl rfl rfl ?_)
      refine wp_of e244 c244_22 (rw_iload_n (pc' := 23) (z := z1190) rfl rfl ?_)
      refine wp_of e244 c244_23 (rw_if_le (p1 := 34) (p2 := 26) (by decide) rfl ⟨by omega, by omega⟩ (fun c1249 => ?_) (fun c1249 => ?_))
      · exfalso
        omega
      · refine wp_of e244 c244_26 (rw_aload_n (pc' := 27) (v := .ref r0) rfl rfl rfl ?_)
        refine wp_of e244 c244_27 (rw_iload_n (pc' := 28) (z := z1190) rfl rfl ?_)
        refine wp_of e244 c244_28 (xc_V (pc' := 31) (r := r0) (as := [vI z1190]) (st := []) (lm_9_54) rfl rfl (Nat.le_of_ble_eq_true rfl) w1188 g0 sh_42 (by decide) rfl (by decide) (u_170  w1188 g0 ⟨by omega, by omega⟩) (fun R1250 T1251 H1252 p1253 => ?_))
        obtain ⟨e1254, w1256, f1257, z1258, e1255, b1259, p1260⟩ := p1253
        subst e1254
        subst e1255
        obtain ⟨a1261, a1262, a1263⟩ := p1260
        have f1264 := f1248.tr f1257 rfl
        show wp _ _ 244 31 [(1, vI z1190), (0, .ref r0)] [vI z1258] _ H1252 _
        refine wp_of e244 c244_31 (rw_goto (p1 := 50) (by decide) ?_)
        have k1265 : wKI H1252 r0 = wKI H1184 r0 := (wKI_fr w1188 g0 f1257 rfl)
        have h1266 : KNN T H1252 r0 e d := (KNN_fr w1188 g0 f1257 rfl a1208)
        exact wp_ireturn e244 c244_50 rfl ⟨rfl, w1256, f1264, z1258, rfl, ⟨by omega, by omega⟩, (Or.inl ⟨by omega, by omega, by omega, h1266⟩)⟩
  · refine wp_of e244 c244_10 (rw_ifnull_r (p1 := 17) (p2 := 13) (by decide) rfl ?_)
    refine wp_of e244 c244_13 (rw_iconst (pc' := 14) rfl ?_)
    refine wp_of e244 c244_14 (rw_goto (p1 := 18) (by decide) ?_)
    have k1267 : wKI H1170 r0 = wKI H r0 := (wKI_fr hW g0 ((wfr.rf (l := [(42, 0)])).put' e1171 g0 rfl) rfl)
    have h1268 : RB T H1170 r0 e d := (RB_fr hW g0 ((wfr.rf (l := [(42, 0)])).put' e1171 g0 rfl) rfl hRB_r0)
    have h1269 : KNN T H1170 r0 e d := (KNN_fr hW g0 ((wfr.rf (l := [(42, 0)])).put' e1171 g0 rfl) rfl hKNN_r0)
    refine wp_of e244 c244_18 (xc_V (pc' := 21) (r := r0) (as := [vI 1]) (st := []) (lm_9_433) rfl rfl (Nat.le_of_ble_eq_true rfl) w1172 g0 sh_42 (by decide) rfl (by decide) (u_241 (e := e) (d := d) w1172 g0 ⟨by omega, by omega⟩ (by omega) (by omega) (by assumption) (by assumption) (by assumption) (by assumption) h1268 h1269) (fun R1270 T1271 H1272 p1273 => ?_))
    obtain ⟨e1274, w1276, f1277, z1278, e1275, b1279, p1280⟩ := p1273
    subst e1274
    subst e1275
    rcases p1280 with ⟨a1281, a1282, a1283, a1284, a1285, a1286, a1287, a1288, a1289⟩ | ⟨a1290, a1291, a1292, a1293, a1294, a1295, a1296⟩
    · have f1297 := f1173.tr f1277 rfl
      show wp _ _ 244 21 [(0, .ref r0)] [vI z1278] _ H1272 _
      refine wp_of e244 c244_21 (rw_istore_n (pc' := 22) (z := z1278) (L' := [(1, vI z1278), (0, .ref r0)]) rfl rfl rfl ?_)
      refine wp_of e244 c244_22 (rw_iload_n (pc' := 23) (z := z1278) rfl rfl ?_)
      refine wp_of e244 c244_23 (rw_if_le (p1 := 34) (p2 := 26) (by decide) rfl ⟨by omega, by omega⟩ (fun c1298 => ?_) (fun c1298 => ?_))
      · have _kb := (a1289).1
        refine wp_of e244 c244_34 (rw_aload_n (pc' := 35) (v := .ref r0) rfl rfl rfl ?_)
        refine wp_of e244 c244_35 (rw_aload_n (pc' := 36) (v := .ref r0) rfl rfl rfl ?_)
        refine wp_of e244 c244_36 (xg_I (pc' := 39) lf_9_422 w1276 g0 sh_42 (by decide) (by decide) ty_42_29 rfl rfl (fun b1299 b1300 => ?_))
        refine wp_of e244 c244_39 (rw_if_le (p1 := 46) (p2 := 42) (by decide) rfl ⟨by omega, by omega⟩ (fun c1301 => ?_) (fun c1301 => ?_))
        · refine wp_of e244 c244_46 (rw_iconst (pc' := 47) rfl ?_)
          refine wp_of e244 c244_47 (xc_V (pc' := 50) (r := r0) (as := [vI 0]) (st := []) (lm_9_58) rfl rfl (Nat.le_of_ble_eq_true rfl) w1276 g0 sh_42 (by decide) rfl (by decide) (u_209  w1276 g0 ⟨by omega, by omega⟩) (fun R1302 T1303 H1304 p1305 => ?_))
          obtain ⟨e1306, w1308, f1309, z1310, e1307, b1311, p1312⟩ := p1305
          subst e1306
          subst e1307
          obtain ⟨a1313, a1314, a1315⟩ := p1312
          have f1316 := f1297.tr f1309 rfl
          show wp _ _ 244 50 [(1, vI z1278), (0, .ref r0)] [vI z1310] _ H1304 _
          have k1317 : wKI H1304 r0 = wKI H1272 r0 := (wKI_fr w1276 g0 f1309 rfl)
          have h1318 : KNN T H1304 r0 e d := (KNN_fr w1276 g0 f1309 rfl a1288)
          exact wp_ireturn e244 c244_50 rfl ⟨rfl, w1308, f1316, z1310, rfl, ⟨by omega, by omega⟩, (Or.inr ⟨by omega, by omega, by omega, by omega, h1318⟩)⟩
        · refine wp_of e244 c244_42 (rw_iconst (pc' := 43) rfl ?_)
          refine wp_of e244 c244_43 (rw_goto (p1 := 47) (by decide) ?_)
          refine wp_of e244 c244_47 (xc_V (pc' := 50) (r := r0) (as := [vI 1]) (st := []) (lm_9_58) rfl rfl (Nat.le_of_ble_eq_true rfl) w1276 g0 sh_42 (by decide) rfl (by decide) (u_209  w1276 g0 ⟨by omega, by omega⟩) (fun R1319 T1320 H1321 p1322 => ?_))
          obtain ⟨e1323, w1325, f1326, z1327, e1324, b1328, p1329⟩ := p1322
          subst e1323
          subst e1324
          obtain ⟨a1330, a1331, a1332⟩ := p1329
          have f1333 := f1297.tr f1326 rfl
          show wp _ _ 244 50 [(1, vI z1278), (0, .ref r0)] [vI z1327] _ H1321 _
          have k1334 : wKI H1321 r0 = wKI H1272 r0 := (wKI_fr w1276 g0 f1326 rfl)
          have h1335 : KNN T H1321 r0 e d := (KNN_fr w1276 g0 f1326 rfl a1288)
          exact wp_ireturn e244 c244_50 rfl ⟨rfl, w1325, f1333, z1327, rfl, ⟨by omega, by omega⟩, (Or.inr ⟨by omega, by omega, by omega, by omega, h1335⟩)⟩
      · exfalso
        omega
    · have f1336 := f1173.tr f1277 rfl
      show wp _ _ 244 21 [(0, .ref r0)] [vI z1278] _ H1272 _
      refine wp_of e244 c244_21 (rw_istore_n (pc' := 22) (z := z1278) (L' := [(1, vI z1278), (0, .ref r0)]) rfl rfl rfl ?_)
      refine wp_of e244 c244_22 (rw_iload_n (pc' := 23) (z := z1278) rfl rfl ?_)
      refine wp_of e244 c244_23 (rw_if_le (p1 := 34) (p2 := 26) (by decide) rfl ⟨by omega, by omega⟩ (fun c1337 => ?_) (fun c1337 => ?_))
      · exfalso
        omega
      · refine wp_of e244 c244_26 (rw_aload_n (pc' := 27) (v := .ref r0) rfl rfl rfl ?_)
        refine wp_of e244 c244_27 (rw_iload_n (pc' := 28) (z := z1278) rfl rfl ?_)
        refine wp_of e244 c244_28 (xc_V (pc' := 31) (r := r0) (as := [vI z1278]) (st := []) (lm_9_54) rfl rfl (Nat.le_of_ble_eq_true rfl) w1276 g0 sh_42 (by decide) rfl (by decide) (u_170  w1276 g0 ⟨by omega, by omega⟩) (fun R1338 T1339 H1340 p1341 => ?_))
        obtain ⟨e1342, w1344, f1345, z1346, e1343, b1347, p1348⟩ := p1341
        subst e1342
        subst e1343
        obtain ⟨a1349, a1350, a1351⟩ := p1348
        have f1352 := f1336.tr f1345 rfl
        show wp _ _ 244 31 [(1, vI z1278), (0, .ref r0)] [vI z1346] _ H1340 _
        refine wp_of e244 c244_31 (rw_goto (p1 := 50) (by decide) ?_)
        have k1353 : wKI H1340 r0 = wKI H1272 r0 := (wKI_fr w1276 g0 f1345 rfl)
        have h1354 : KNN T H1340 r0 e d := (KNN_fr w1276 g0 f1345 rfl a1296)
        exact wp_ireturn e244 c244_50 rfl ⟨rfl, w1344, f1352, z1346, rfl, ⟨by omega, by omega⟩, (Or.inl ⟨by omega, by omega, by omega, h1354⟩)⟩
/-! StrikeAwakeModel.world(II)I  -/
abbrev uq_245 (r0 : Nat) (a1 : Int) (a2 : Int) (e : xD) (d : xD) (T : wq_T) (H : wq_H) : Option Value → wq_T → wq_H → Prop := fun r T' H' => T = T' ∧ WT T H' ∧ wfr [(42, 0), (42, 1), (42, 2), (42, 28), (42, 29), (51, 999), (52, 999)] T H H' ∧ ∃ z : Int, some (vI z) = r ∧ ((-2147483648) ≤ z ∧ z ≤ 2147483647) ∧ (((z = -1) ∧ (wKI H' r0 = 1) ∧ (((a2 < 0 ∨ d 0 3 ≤ a2) ∨ a1 < 0) ∨ 20000 < xlots d ∨ xcn (xwf e d) (xlots d).toNat ≤ a1) ∧ KNN T H' r0 e d) ∨ ((wKI H' r0 = 1) ∧ (((0 ≤ a2 ∧ a2 < d 0 3) ∧ 0 ≤ a1) ∧ xlots d ≤ 20000 ∧ a1 < xcn (xwf e d) (xlots d).toNat) ∧ (z = xlot d ((xith (xwf e d) a1 (xlots d).toNat : Nat) : Int) (a2).toNat) ∧ KNN T H' r0 e d))
set_option maxHeartbeats 4000000 in
theorem u_245 {kt : Nat → Option mc_E} {T : wq_T} {H : wq_H} {r0 : Nat} {a1 : Int} {a2 : Int} {e : xD} {d : xD} (hW : WT T H) (g0 : T.2.2.2 r0 = some 42) (i1 : (-2147483648) ≤ a1 ∧ a1 ≤ 2147483647) (i2 : (-2147483648) ≤ a2 ∧ a2 ≤ 2147483647) (p0 : wKI H r0 = 1) (p1 : XW d) (p2 : ∀ h : Nat, d 0 0 ≤ (h : Int) → h < 24 → e 13 h = 0) (p3 : XN d) (p4 : ∀ h : Nat, h < 24 → 0 ≤ e 13 h ∧ e 13 h ≤ 100) (hRB_r0 : RB T H r0 e d) (hKNN_r0 : KNN T H r0 e d) : wpc kt 8 245 [.ref r0, vI a1, vI a2] T H (uq_245 r0 a1 a2 e d T H) := by
  refine wp_enter e245 (Nat.le_of_ble_eq_true rfl) rfl ?_
  have f0 : wfr [(42, 0), (42, 1), (42, 2), (42, 28), (42, 29), (51, 999), (52, 999)] T H H := wfr.rf
  show wp _ _ 245 0 [(0, .ref r0), (1, vI a1), (2, vI a2)] [] _ H _
  have _b := RB_b hW hRB_r0
  have _nu := RB_n3 hRB_r0
  have _lm := RB_lm hRB_r0
  refine wp_of e245 c245_0 (rw_aload_n (pc' := 1) (v := .ref r0) rfl rfl rfl ?_)
  refine wp_of e245 c245_1 (rw_iconst (pc' := 2) rfl ?_)
  refine wp_of e245 c245_2 (xp_I (pc' := 5) lf_9_48 hW g0 sh_42 (by decide) (by decide) ty_42_0 rfl rfl (by omega) (by omega) ⟨by omega, by omega⟩ rfl (fun H1331 e1332 w1333 => ?_))
  have f1334 := f0.put' e1332 g0 rfl
  have k1335 : H1331 r0 0 = 0 := wq_u_s e1332
  refine wp_of e245 c245_5 (rw_aload_n (pc' := 6) (v := .ref r0) rfl rfl rfl ?_)
  refine wp_of e245 c245_6 (rw_aload_n (pc' := 7) (v := .ref r0) rfl rfl rfl ?_)
  refine wp_of e245 c245_7 (rw_iload_n (pc' := 8) (z := a2) rfl rfl ?_)
  have h1336 : RB T H1331 r0 e d := (RB_fr hW g0 ((wfr.rf (l := [(42, 0)])).put' e1332 g0 rfl) rfl hRB_r0)
  refine wp_of e245 c245_8 (xc_V (pc' := 11) (r := r0) (as := [vI a2]) (st := [.ref r0]) (lm_9_364) rfl rfl (Nat.le_of_ble_eq_true rfl) w1333 g0 sh_42 (by decide) rfl (by decide) (u_213 (e := e) (d := d) w1333 g0 ⟨by omega, by omega⟩ h1336) (fun R1337 T1338 H1339 p1340 => ?_))
  obtain ⟨e1341, e1343, z1344, e1342, b1345, p1346⟩ := p1340
  subst e1341
  subst e1342
  subst e1343
  rcases p1346 with ⟨a1347, a1348⟩ | ⟨a1349, a1350⟩
  · show wp _ _ 245 11 [(0, .ref r0), (1, vI a1), (2, vI a2)] [vI z1344, .ref r0] _ H1331 _
    refine wp_of e245 c245_11 (rw_if_eq (p1 := 22) (p2 := 14) (by decide) rfl ⟨by omega, by omega⟩ (fun c1351 => ?_) (fun c1351 => ?_))
    · exfalso
      omega
    · refine wp_of e245 c245_14 (rw_iload_n (pc' := 15) (z := a1) rfl rfl ?_)
      refine wp_of e245 c245_15 (rw_if_lt (p1 := 22) (p2 := 18) (by decide) rfl ⟨by omega, by omega⟩ (fun c1352 => ?_) (fun c1352 => ?_))
      · refine wp_of e245 c245_22 (rw_iconst (pc' := 23) rfl ?_)
        have k1353 : H1331 r0 3 = H r0 3 := (wq_u_j e1332 rfl)
        have k1354 : wKI H1331 r0 = wKI H r0 := (wKI_fr hW g0 ((wfr.rf (l := [(42, 0)])).put' e1332 g0 rfl) rfl)
        have h1355 : KNN T H1331 r0 e d := (KNN_fr hW g0 ((wfr.rf (l := [(42, 0)])).put' e1332 g0 rfl) rfl hKNN_r0)
        refine wp_of e245 c245_23 (xc_V (pc' := 26) (r := r0) (as := [vI 0]) (st := []) (lm_9_433) rfl rfl (Nat.le_of_ble_eq_true rfl) w1333 g0 sh_42 (by decide) rfl (by decide) (u_241 (e := e) (d := d) w1333 g0 ⟨by omega, by omega⟩ (by omega) (by omega) (by assumption) (by assumption) (by assumption) (by assumption) h1336 h1355) (fun R1356 T1357 H1358 p1359 => ?_))
        obtain ⟨e1360, w1362, f1363, z1364, e1361, b1365, p1366⟩ := p1359
        subst e1360
        subst e1361
        rcases p1366 with ⟨a1367, a1368, a1369, a1370, a1371, a1372, a1373, a1374, a1375⟩ | ⟨a1376, a1377, a1378, a1379, a1380, a1381, a1382⟩
        · have f1383 := f1334.tr f1363 rfl
          show wp _ _ 245 26 [(0, .ref r0), (1, vI a1), (2, vI a2)] [vI z1364] _ H1358 _
          refine wp_of e245 c245_26 (rw_istore_n (pc' := 27) (z := z1364) (L' := [(3, vI z1364), (0, .ref r0), (1, vI a1), (2, vI a2)]) rfl rfl rfl ?_)
          refine wp_of e245 c245_27 (rw_iload_n (pc' := 28) (z := z1364) rfl rfl ?_)
          refine wp_of e245 c245_28 (rw_if_ne (p1 := 41) (p2 := 31) (by decide) rfl ⟨by omega, by omega⟩ (fun c1384 => ?_) (fun c1384 => ?_))
          · exfalso
            omega
          · obtain ⟨r1385, q1386, g1387⟩ := (w1362.opt g0 (t' := 54) (n := 33) (j := 3) (p := 0) (q := 0) rfl (by decide) rfl).resolve_left (by omega)
            have h1388 : RB T H1358 r0 e d := (RB_fr w1333 g0 f1363 rfl h1336)
            have _kbb := a1375
            have _kb := _kbb.1
            have _n3 : H1358 r0 3 ≠ -1 := by omega
            have _rp := RB_at h1388 q1386
            have _k := RP_k _rp
            have _nb := xcn_b (f := xwf e d) (xlots d).toNat
            have h1389 : KL T H1358 r0 (xwf e d) (xlots d).toNat := _kbb.2
            refine wp_of e245 c245_31 (rw_iload_n (pc' := 32) (z := a1) rfl rfl ?_)
            refine wp_of e245 c245_32 (rw_aload_n (pc' := 33) (v := .ref r0) rfl rfl rfl ?_)
            refine wp_of e245 c245_33 (xg_I (pc' := 36) lf_9_422 w1362 g0 sh_42 (by decide) (by decide) ty_42_29 rfl rfl (fun b1390 b1391 => ?_))
            refine wp_of e245 c245_36 (rw_icmp_lt (p1 := 41) (p2 := 39) (by decide) rfl ⟨by omega, by omega⟩ ⟨by omega, by omega⟩ (fun c1392 => ?_) (fun c1392 => ?_))
            · refine wp_of e245 c245_41 (rw_iload_n (pc' := 42) (z := z1364) rfl rfl ?_)
              refine wp_of e245 c245_42 (rw_if_le (p1 := 51) (p2 := 45) (by decide) rfl ⟨by omega, by omega⟩ (fun c1393 => ?_) (fun c1393 => ?_))
              · refine wp_of e245 c245_51 (rw_aload_n (pc' := 52) (v := .ref r0) rfl rfl rfl ?_)
                refine wp_of e245 c245_52 (rw_aload_n (pc' := 53) (v := .ref r0) rfl rfl rfl ?_)
                refine wp_of e245 c245_53 (xg_R (pc' := 56) lf_9_42 w1362 g0 sh_42 (by decide) (by decide) ty_42_30 rfl rfl (fun r1394 q1395 g1396 => ?_))
                have _xi := xith_ex (f := xwf e d) (i := a1) (xlots d).toNat (by omega) (by omega)
                have _kl := KL_at h1389 q1395 (n := xith (xwf e d) a1 (xlots d).toNat) (s := (a1).toNat) _xi.2.2 _xi.1 (by omega)
                refine wp_of e245 c245_56 (rw_iload_n (pc' := 57) (z := a1) rfl rfl ?_)
                refine wp_of e245 c245_57 (xa_I (so := 0) (pc' := 58) w1362 g1396 sh_52 (by decide) (ty_52 _) (by omega) (by omega) rfl (fun b1397 b1398 => ?_))
                refine wp_of e245 c245_58 (xc_V (pc' := 61) (r := r0) (as := [vI (H1358 r1394 (a1.toNat))]) (st := []) (lm_9_425) rfl rfl (Nat.le_of_ble_eq_true rfl) w1362 g0 sh_42 (by decide) rfl (by decide) (u_243 (e := e) (d := d) w1362 g0 ⟨by omega, by omega⟩ q1386 g1387 (by omega) h1388) (fun R1399 T1400 H1401 p1402 => ?_))
                obtain ⟨e1403, w1405, f1406, e1404, p1407⟩ := p1402
                subst e1403
                subst e1404
                have f1409 := f1383.tr f1406 rfl
                show wp _ _ 245 61 [(3, vI z1364), (0, .ref r0), (1, vI a1), (2, vI a2)] [] _ H1401 _
                have h1410 : LQ27 T H1401 r0 0 (d 0 3) (xlot d ((xith (xwf e d) a1 (xlots d).toNat : Nat) : Int)) := by rw [← show H1358 r1394 (a1.toNat) = ((xith (xwf e d) a1 (xlots d).toNat : Nat) : Int) by omega]; exact p1407
                refine wp_of e245 c245_61 (rw_aload_n (pc' := 62) (v := .ref r0) rfl rfl rfl ?_)
                refine wp_of e245 c245_62 (rw_aload_n (pc' := 63) (v := .ref r0) rfl rfl rfl ?_)
                refine wp_of e245 c245_63 (xg_R (pc' := 66) lf_9_39 w1405 g0 sh_42 (by decide) (by decide) ty_42_27 rfl rfl (fun r1411 q1412 g1413 => ?_))
                refine wp_of e245 c245_66 (rw_iload_n (pc' := 67) (z := a2) rfl rfl ?_)
                refine wp_of e245 c245_67 (xa_I (so := 0) (pc' := 68) w1405 g1413 sh_51 (by decide) (ty_51 _) (by omega) (by omega) rfl (fun b1414 b1415 => ?_))
                have := LR_at h1410 q1412 (k := (a2.toNat)) (by omega) (by omega)
                refine wp_of e245 c245_68 (xc_V (pc' := 71) (r := r0) (as := [vI (H1401 r1411 (a2.toNat))]) (st := []) (lm_9_58) rfl rfl (Nat.le_of_ble_eq_true rfl) w1405 g0 sh_42 (by decide) rfl (by decide) (u_209  w1405 g0 ⟨by omega, by omega⟩) (fun R1416 T1417 H1418 p1419 => ?_))
                obtain ⟨e1420, w1422, f1423, z1424, e1421, b1425, p1426⟩ := p1419
                subst e1420
                subst e1421
                obtain ⟨a1427, a1428, a1429⟩ := p1426
                have f1430 := f1409.tr f1423 rfl
                show wp _ _ 245 71 [(3, vI z1364), (0, .ref r0), (1, vI a1), (2, vI a2)] [vI z1424] _ H1418 _
                have k1431 : wKI H1418 r0 = wKI H1358 r0 := ((wKI_fr w1405 g0 f1423 rfl).trans (wKI_fr w1362 g0 f1406 rfl))
                have h1432 : KNN T H1418 r0 e d := (KNN_fr w1405 g0 f1423 rfl (KNN_fr w1362 g0 f1406 rfl a1374))
                exact wp_ireturn e245 c245_71 rfl ⟨rfl, w1422, f1430, z1424, rfl, ⟨by omega, by omega⟩, (Or.inr ⟨by omega, by omega, by omega, h1432⟩)⟩
              · exfalso
                omega
            · exfalso
              omega
        · have f1433 := f1334.tr f1363 rfl
          show wp _ _ 245 26 [(0, .ref r0), (1, vI a1), (2, vI a2)] [vI z1364] _ H1358 _
          refine wp_of e245 c245_26 (rw_istore_n (pc' := 27) (z := z1364) (L' := [(3, vI z1364), (0, .ref r0), (1, vI a1), (2, vI a2)]) rfl rfl rfl ?_)
          refine wp_of e245 c245_27 (rw_iload_n (pc' := 28) (z := z1364) rfl rfl ?_)
          refine wp_of e245 c245_28 (rw_if_ne (p1 := 41) (p2 := 31) (by decide) rfl ⟨by omega, by omega⟩ (fun c1434 => ?_) (fun c1434 => ?_))
          · refine wp_of e245 c245_41 (rw_iload_n (pc' := 42) (z := z1364) rfl rfl ?_)
            refine wp_of e245 c245_42 (rw_if_le (p1 := 51) (p2 := 45) (by decide) rfl ⟨by omega, by omega⟩ (fun c1435 => ?_) (fun c1435 => ?_))
            · exfalso
              omega
            · refine wp_of e245 c245_45 (rw_aload_n (pc' := 46) (v := .ref r0) rfl rfl rfl ?_)
              refine wp_of e245 c245_46 (rw_iload_n (pc' := 47) (z := z1364) rfl rfl ?_)
              refine wp_of e245 c245_47 (xc_V (pc' := 50) (r := r0) (as := [vI z1364]) (st := []) (lm_9_54) rfl rfl (Nat.le_of_ble_eq_true rfl) w1362 g0 sh_42 (by decide) rfl (by decide) (u_170  w1362 g0 ⟨by omega, by omega⟩) (fun R1436 T1437 H1438 p1439 => ?_))
              obtain ⟨e1440, w1442, f1443, z1444, e1441, b1445, p1446⟩ := p1439
              subst e1440
              subst e1441
              obtain ⟨a1447, a1448, a1449⟩ := p1446
              have f1450 := f1433.tr f1443 rfl
              show wp _ _ 245 50 [(3, vI z1364), (0, .ref r0), (1, vI a1), (2, vI a2)] [vI z1444] _ H1438 _
              have k1451 : wKI H1438 r0 = wKI H1358 r0 := (wKI_fr w1362 g0 f1443 rfl)
              have h1452 : KNN T H1438 r0 e d := (KNN_fr w1362 g0 f1443 rfl a1382)
              exact wp_ireturn e245 c245_50 rfl ⟨rfl, w1442, f1450, z1444, rfl, ⟨by omega, by omega⟩, (Or.inl ⟨by omega, by omega, by omega, h1452⟩)⟩
          · exfalso
            omega
      · refine wp_of e245 c245_18 (rw_iconst (pc' := 19) rfl ?_)
        refine wp_of e245 c245_19 (rw_goto (p1 := 23) (by decide) ?_)
        have k1453 : H1331 r0 3 = H r0 3 := (wq_u_j e1332 rfl)
        have k1454 : wKI H1331 r0 = wKI H r0 := (wKI_fr hW g0 ((wfr.rf (l := [(42, 0)])).put' e1332 g0 rfl) rfl)
        have h1455 : KNN T H1331 r0 e d := (KNN_fr hW g0 ((wfr.rf (l := [(42, 0)])).put' e1332 g0 rfl) rfl hKNN_r0)
        refine wp_of e245 c245_23 (xc_V (pc' := 26) (r := r0) (as := [vI 1]) (st := []) (lm_9_433) rfl rfl (Nat.le_of_ble_eq_true rfl) w1333 g0 sh_42 (by decide) rfl (by decide) (u_241 (e := e) (d := d) w1333 g0 ⟨by omega, by omega⟩ (by omega) (by omega) (by assumption) (by assumption) (by assumption) (by assumption) h1336 h1455) (fun R1456 T1457 H1458 p1459 => ?_))
        obtain ⟨e1460, w1462, f1463, z1464, e1461, b1465, p1466⟩ := p1459
        subst e1460
        subst e1461
        rcases p1466 with ⟨a1467, a1468, a1469, a1470, a1471, a1472, a1473, a1474, a1475⟩ | ⟨a1476, a1477, a1478, a1479, a1480, a1481, a1482⟩
        · have f1483 := f1334.tr f1463 rfl
          show wp _ _ 245 26 [(0, .ref r0), (1, vI a1), (2, vI a2)] [vI z1464] _ H1458 _
          refine wp_of e245 c245_26 (rw_istore_n (pc' := 27) (z := z1464) (L' := [(3, vI z1464), (0, .ref r0), (1, vI a1), (2, vI a2)]) rfl rfl rfl ?_)
          refine wp_of e245 c245_27 (rw_iload_n (pc' := 28) (z := z1464) rfl rfl ?_)
          refine wp_of e245 c245_28 (rw_if_ne (p1 := 41) (p2 := 31) (by decide) rfl ⟨by omega, by omega⟩ (fun c1484 => ?_) (fun c1484 => ?_))
          · exfalso
            omega
          · obtain ⟨r1485, q1486, g1487⟩ := (w1462.opt g0 (t' := 54) (n := 33) (j := 3) (p := 0) (q := 0) rfl (by decide) rfl).resolve_left (by omega)
            have h1488 : RB T H1458 r0 e d := (RB_fr w1333 g0 f1463 rfl h1336)
            have _kbb := a1475
            have _kb := _kbb.1
            have _n3 : H1458 r0 3 ≠ -1 := by omega
            have _rp := RB_at h1488 q1486
            have _k := RP_k _rp
            have _nb := xcn_b (f := xwf e d) (xlots d).toNat
            have h1489 : KL T H1458 r0 (xwf e d) (xlots d).toNat := _kbb.2
            refine wp_of e245 c245_31 (rw_iload_n (pc' := 32) (z := a1) rfl rfl ?_)
            refine wp_of e245 c245_32 (rw_aload_n (pc' := 33) (v := .ref r0) rfl rfl rfl ?_)
            refine wp_of e245 c245_33 (xg_I (pc' := 36) lf_9_422 w1462 g0 sh_42 (by decide) (by decide) ty_42_29 rfl rfl (fun b1490 b1491 => ?_))
            refine wp_of e245 c245_36 (rw_icmp_lt (p1 := 41) (p2 := 39) (by decide) rfl ⟨by omega, by omega⟩ ⟨by omega, by omega⟩ (fun c1492 => ?_) (fun c1492 => ?_))
            · refine wp_of e245 c245_41 (rw_iload_n (pc' := 42) (z := z1464) rfl rfl ?_)
              refine wp_of e245 c245_42 (rw_if_le (p1 := 51) (p2 := 45) (by decide) rfl ⟨by omega, by omega⟩ (fun c1493 => ?_) (fun c1493 => ?_))
              · refine wp_of e245 c245_51 (rw_aload_n (pc' := 52) (v := .ref r0) rfl rfl rfl ?_)
                refine wp_of e245 c245_52 (rw_aload_n (pc' := 53) (v := .ref r0) rfl rfl rfl ?_)
                refine wp_of e245 c245_53 (xg_R (pc' := 56) lf_9_42 w1462 g0 sh_42 (by decide) (by decide) ty_42_30 rfl rfl (fun r1494 q1495 g1496 => ?_))
                have _xi := xith_ex (f := xwf e d) (i := a1) (xlots d).toNat (by omega) (by omega)
                have _kl := KL_at h1489 q1495 (n := xith (xwf e d) a1 (xlots d).toNat) (s := (a1).toNat) _xi.2.2 _xi.1 (by omega)
                refine wp_of e245 c245_56 (rw_iload_n (pc' := 57) (z := a1) rfl rfl ?_)
                refine wp_of e245 c245_57 (xa_I (so := 0) (pc' := 58) w1462 g1496 sh_52 (by decide) (ty_52 _) (by omega) (by omega) rfl (fun b1497 b1498 => ?_))
                refine wp_of e245 c245_58 (xc_V (pc' := 61) (r := r0) (as := [vI (H1458 r1494 (a1.toNat))]) (st := []) (lm_9_425) rfl rfl (Nat.le_of_ble_eq_true rfl) w1462 g0 sh_42 (by decide) rfl (by decide) (u_243 (e := e) (d := d) w1462 g0 ⟨by omega, by omega⟩ q1486 g1487 (by omega) h1488) (fun R1499 T1500 H1501 p1502 => ?_))
                obtain ⟨e1503, w1505, f1506, e1504, p1507⟩ := p1502
                subst e1503
                subst e1504
                have f1509 := f1483.tr f1506 rfl
                show wp _ _ 245 61 [(3, vI z1464), (0, .ref r0), (1, vI a1), (2, vI a2)] [] _ H1501 _
                have h1510 : LQ27 T H1501 r0 0 (d 0 3) (xlot d ((xith (xwf e d) a1 (xlots d).toNat : Nat) : Int)) := by rw [← show H1458 r1494 (a1.toNat) = ((xith (xwf e d) a1 (xlots d).toNat : Nat) : Int) by omega]; exact p1507
                refine wp_of e245 c245_61 (rw_aload_n (pc' := 62) (v := .ref r0) rfl rfl rfl ?_)
                refine wp_of e245 c245_62 (rw_aload_n (pc' := 63) (v := .ref r0) rfl rfl rfl ?_)
                refine wp_of e245 c245_63 (xg_R (pc' := 66) lf_9_39 w1505 g0 sh_42 (by decide) (by decide) ty_42_27 rfl rfl (fun r1511 q1512 g1513 => ?_))
                refine wp_of e245 c245_66 (rw_iload_n (pc' := 67) (z := a2) rfl rfl ?_)
                refine wp_of e245 c245_67 (xa_I (so := 0) (pc' := 68) w1505 g1513 sh_51 (by decide) (ty_51 _) (by omega) (by omega) rfl (fun b1514 b1515 => ?_))
                have := LR_at h1510 q1512 (k := (a2.toNat)) (by omega) (by omega)
                refine wp_of e245 c245_68 (xc_V (pc' := 71) (r := r0) (as := [vI (H1501 r1511 (a2.toNat))]) (st := []) (lm_9_58) rfl rfl (Nat.le_of_ble_eq_true rfl) w1505 g0 sh_42 (by decide) rfl (by decide) (u_209  w1505 g0 ⟨by omega, by omega⟩) (fun R1516 T1517 H1518 p1519 => ?_))
                obtain ⟨e1520, w1522, f1523, z1524, e1521, b1525, p1526⟩ := p1519
                subst e1520
                subst e1521
                obtain ⟨a1527, a1528, a1529⟩ := p1526
                have f1530 := f1509.tr f1523 rfl
                show wp _ _ 245 71 [(3, vI z1464), (0, .ref r0), (1, vI a1), (2, vI a2)] [vI z1524] _ H1518 _
                have k1531 : wKI H1518 r0 = wKI H1458 r0 := ((wKI_fr w1505 g0 f1523 rfl).trans (wKI_fr w1462 g0 f1506 rfl))
                have h1532 : KNN T H1518 r0 e d := (KNN_fr w1505 g0 f1523 rfl (KNN_fr w1462 g0 f1506 rfl a1474))
                exact wp_ireturn e245 c245_71 rfl ⟨rfl, w1522, f1530, z1524, rfl, ⟨by omega, by omega⟩, (Or.inr ⟨by omega, by omega, by omega, h1532⟩)⟩
              · exfalso
                omega
            · refine wp_of e245 c245_39 (rw_iconst (pc' := 40) rfl ?_)
              refine wp_of e245 c245_40 (rw_istore_n (pc' := 41) (z := 1) (L' := [(3, vI 1), (0, .ref r0), (1, vI a1), (2, vI a2)]) rfl rfl rfl ?_)
              refine wp_of e245 c245_41 (rw_iload_n (pc' := 42) (z := 1) rfl rfl ?_)
              refine wp_of e245 c245_42 (rw_if_le (p1 := 51) (p2 := 45) (by decide) rfl ⟨by omega, by omega⟩ (fun c1533 => ?_) (fun c1533 => ?_))
              · exfalso
                omega
              · refine wp_of e245 c245_45 (rw_aload_n (pc' := 46) (v := .ref r0) rfl rfl rfl ?_)
                refine wp_of e245 c245_46 (rw_iload_n (pc' := 47) (z := 1) rfl rfl ?_)
                refine wp_of e245 c245_47 (xc_V (pc' := 50) (r := r0) (as := [vI 1]) (st := []) (lm_9_54) rfl rfl (Nat.le_of_ble_eq_true rfl) w1462 g0 sh_42 (by decide) rfl (by decide) (u_170  w1462 g0 ⟨by omega, by omega⟩) (fun R1534 T1535 H1536 p1537 => ?_))
                obtain ⟨e1538, w1540, f1541, z1542, e1539, b1543, p1544⟩ := p1537
                subst e1538
                subst e1539
                obtain ⟨a1545, a1546, a1547⟩ := p1544
                have f1548 := f1483.tr f1541 rfl
                show wp _ _ 245 50 [(3, vI 1), (0, .ref r0), (1, vI a1), (2, vI a2)] [vI z1542] _ H1536 _
                have k1549 : wKI H1536 r0 = wKI H1458 r0 := (wKI_fr w1462 g0 f1541 rfl)
                have h1550 : KNN T H1536 r0 e d := (KNN_fr w1462 g0 f1541 rfl a1474)
                exact wp_ireturn e245 c245_50 rfl ⟨rfl, w1540, f1548, z1542, rfl, ⟨by omega, by omega⟩, (Or.inl ⟨by omega, by omega, by omega, h1550⟩)⟩
        · have f1551 := f1334.tr f1463 rfl
          show wp _ _ 245 26 [(0, .ref r0), (1, vI a1), (2, vI a2)] [vI z1464] _ H1458 _
          refine wp_of e245 c245_26 (rw_istore_n (pc' := 27) (z := z1464) (L' := [(3, vI z1464), (0, .ref r0), (1, vI a1), (2, vI a2)]) rfl rfl rfl ?_)
          refine wp_of e245 c245_27 (rw_iload_n (pc' := 28) (z := z1464) rfl rfl ?_)
          refine wp_of e245 c245_28 (rw_if_ne (p1 := 41) (p2 := 31) (by decide) rfl ⟨by omega, by omega⟩ (fun c1552 => ?_) (fun c1552 => ?_))
          · refine wp_of e245 c245_41 (rw_iload_n (pc' := 42) (z := z1464) rfl rfl ?_)
            refine wp_of e245 c245_42 (rw_if_le (p1 := 51) (p2 := 45) (by decide) rfl ⟨by omega, by omega⟩ (fun c1553 => ?_) (fun c1553 => ?_))
            · exfalso
              omega
            · refine wp_of e245 c245_45 (rw_aload_n (pc' := 46) (v := .ref r0) rfl rfl rfl ?_)
              refine wp_of e245 c245_46 (rw_iload_n (pc' := 47) (z := z1464) rfl rfl ?_)
              refine wp_of e245 c245_47 (xc_V (pc' := 50) (r := r0) (as := [vI z1464]) (st := []) (lm_9_54) rfl rfl (Nat.le_of_ble_eq_true rfl) w1462 g0 sh_42 (by decide) rfl (by decide) (u_170  w1462 g0 ⟨by omega, by omega⟩) (fun R1554 T1555 H1556 p1557 => ?_))
              obtain ⟨e1558, w1560, f1561, z1562, e1559, b1563, p1564⟩ := p1557
              subst e1558
              subst e1559
              obtain ⟨a1565, a1566, a1567⟩ := p1564
              have f1568 := f1551.tr f1561 rfl
              show wp _ _ 245 50 [(3, vI z1464), (0, .ref r0), (1, vI a1), (2, vI a2)] [vI z1562] _ H1556 _
              have k1569 : wKI H1556 r0 = wKI H1458 r0 := (wKI_fr w1462 g0 f1561 rfl)
              have h1570 : KNN T H1556 r0 e d := (KNN_fr w1462 g0 f1561 rfl a1482)
              exact wp_ireturn e245 c245_50 rfl ⟨rfl, w1560, f1568, z1562, rfl, ⟨by omega, by omega⟩, (Or.inl ⟨by omega, by omega, by omega, h1570⟩)⟩
          · exfalso
            omega
  · show wp _ _ 245 11 [(0, .ref r0), (1, vI a1), (2, vI a2)] [vI z1344, .ref r0] _ H1331 _
    refine wp_of e245 c245_11 (rw_if_eq (p1 := 22) (p2 := 14) (by decide) rfl ⟨by omega, by omega⟩ (fun c1571 => ?_) (fun c1571 => ?_))
    · refine wp_of e245 c245_22 (rw_iconst (pc' := 23) rfl ?_)
      have k1572 : H1331 r0 3 = H r0 3 := (wq_u_j e1332 rfl)
      have k1573 : wKI H1331 r0 = wKI H r0 := (wKI_fr hW g0 ((wfr.rf (l := [(42, 0)])).put' e1332 g0 rfl) rfl)
      have h1574 : KNN T H1331 r0 e d := (KNN_fr hW g0 ((wfr.rf (l := [(42, 0)])).put' e1332 g0 rfl) rfl hKNN_r0)
      refine wp_of e245 c245_23 (xc_V (pc' := 26) (r := r0) (as := [vI 0]) (st := []) (lm_9_433) rfl rfl (Nat.le_of_ble_eq_true rfl) w1333 g0 sh_42 (by decide) rfl (by decide) (u_241 (e := e) (d := d) w1333 g0 ⟨by omega, by omega⟩ (by omega) (by omega) (by assumption) (by assumption) (by assumption) (by assumption) h1336 h1574) (fun R1575 T1576 H1577 p1578 => ?_))
      obtain ⟨e1579, w1581, f1582, z1583, e1580, b1584, p1585⟩ := p1578
      subst e1579
      subst e1580
      rcases p1585 with ⟨a1586, a1587, a1588, a1589, a1590, a1591, a1592, a1593, a1594⟩ | ⟨a1595, a1596, a1597, a1598, a1599, a1600, a1601⟩
      · have f1602 := f1334.tr f1582 rfl
        show wp _ _ 245 26 [(0, .ref r0), (1, vI a1), (2, vI a2)] [vI z1583] _ H1577 _
        refine wp_of e245 c245_26 (rw_istore_n (pc' := 27) (z := z1583) (L' := [(3, vI z1583), (0, .ref r0), (1, vI a1), (2, vI a2)]) rfl rfl rfl ?_)
        refine wp_of e245 c245_27 (rw_iload_n (pc' := 28) (z := z1583) rfl rfl ?_)
        refine wp_of e245 c245_28 (rw_if_ne (p1 := 41) (p2 := 31) (by decide) rfl ⟨by omega, by omega⟩ (fun c1603 => ?_) (fun c1603 => ?_))
        · exfalso
          omega
        · obtain ⟨r1604, q1605, g1606⟩ := (w1581.opt g0 (t' := 54) (n := 33) (j := 3) (p := 0) (q := 0) rfl (by decide) rfl).resolve_left (by omega)
          have h1607 : RB T H1577 r0 e d := (RB_fr w1333 g0 f1582 rfl h1336)
          have _kbb := a1594
          have _kb := _kbb.1
          have _n3 : H1577 r0 3 ≠ -1 := by omega
          have _rp := RB_at h1607 q1605
          have _k := RP_k _rp
          have _nb := xcn_b (f := xwf e d) (xlots d).toNat
          have h1608 : KL T H1577 r0 (xwf e d) (xlots d).toNat := _kbb.2
          refine wp_of e245 c245_31 (rw_iload_n (pc' := 32) (z := a1) rfl rfl ?_)
          refine wp_of e245 c245_32 (rw_aload_n (pc' := 33) (v := .ref r0) rfl rfl rfl ?_)
          refine wp_of e245 c245_33 (xg_I (pc' := 36) lf_9_422 w1581 g0 sh_42 (by decide) (by decide) ty_42_29 rfl rfl (fun b1609 b1610 => ?_))
          refine wp_of e245 c245_36 (rw_icmp_lt (p1 := 41) (p2 := 39) (by decide) rfl ⟨by omega, by omega⟩ ⟨by omega, by omega⟩ (fun c1611 => ?_) (fun c1611 => ?_))
          · refine wp_of e245 c245_41 (rw_iload_n (pc' := 42) (z := z1583) rfl rfl ?_)
            refine wp_of e245 c245_42 (rw_if_le (p1 := 51) (p2 := 45) (by decide) rfl ⟨by omega, by omega⟩ (fun c1612 => ?_) (fun c1612 => ?_))
            · refine wp_of e245 c245_51 (rw_aload_n (pc' := 52) (v := .ref r0) rfl rfl rfl ?_)
              refine wp_of e245 c245_52 (rw_aload_n (pc' := 53) (v := .ref r0) rfl rfl rfl ?_)
              refine wp_of e245 c245_53 (xg_R (pc' := 56) lf_9_42 w1581 g0 sh_42 (by decide) (by decide) ty_42_30 rfl rfl (fun r1613 q1614 g1615 => ?_))
              have _xi := xith_ex (f := xwf e d) (i := a1) (xlots d).toNat (by omega) (by omega)
              have _kl := KL_at h1608 q1614 (n := xith (xwf e d) a1 (xlots d).toNat) (s := (a1).toNat) _xi.2.2 _xi.1 (by omega)
              refine wp_of e245 c245_56 (rw_iload_n (pc' := 57) (z := a1) rfl rfl ?_)
              refine wp_of e245 c245_57 (xa_I (so := 0) (pc' := 58) w1581 g1615 sh_52 (by decide) (ty_52 _) (by omega) (by omega) rfl (fun b1616 b1617 => ?_))
              refine wp_of e245 c245_58 (xc_V (pc' := 61) (r := r0) (as := [vI (H1577 r1613 (a1.toNat))]) (st := []) (lm_9_425) rfl rfl (Nat.le_of_ble_eq_true rfl) w1581 g0 sh_42 (by decide) rfl (by decide) (u_243 (e := e) (d := d) w1581 g0 ⟨by omega, by omega⟩ q1605 g1606 (by omega) h1607) (fun R1618 T1619 H1620 p1621 => ?_))
              obtain ⟨e1622, w1624, f1625, e1623, p1626⟩ := p1621
              subst e1622
              subst e1623
              have f1628 := f1602.tr f1625 rfl
              show wp _ _ 245 61 [(3, vI z1583), (0, .ref r0), (1, vI a1), (2, vI a2)] [] _ H1620 _
              have h1629 : LQ27 T H1620 r0 0 (d 0 3) (xlot d ((xith (xwf e d) a1 (xlots d).toNat : Nat) : Int)) := by rw [← show H1577 r1613 (a1.toNat) = ((xith (xwf e d) a1 (xlots d).toNat : Nat) : Int) by omega]; exact p1626
              refine wp_of e245 c245_61 (rw_aload_n (pc' := 62) (v := .ref r0) rfl rfl rfl ?_)
              refine wp_of e245 c245_62 (rw_aload_n (pc' := 63) (v := .ref r0) rfl rfl rfl ?_)
              refine wp_of e245 c245_63 (xg_R (pc' := 66) lf_9_39 w1624 g0 sh_42 (by decide) (by decide) ty_42_27 rfl rfl (fun r1630 q1631 g1632 => ?_))
              refine wp_of e245 c245_66 (rw_iload_n (pc' := 67) (z := a2) rfl rfl ?_)
              refine wp_of e245 c245_67 (xa_I (so := 0) (pc' := 68) w1624 g1632 sh_51 (by decide) (ty_51 _) (by omega) (by omega) rfl (fun b1633 b1634 => ?_))
              have := LR_at h1629 q1631 (k := (a2.toNat)) (by omega) (by omega)
              refine wp_of e245 c245_68 (xc_V (pc' := 71) (r := r0) (as := [vI (H1620 r1630 (a2.toNat))]) (st := []) (lm_9_58) rfl rfl (Nat.le_of_ble_eq_true rfl) w1624 g0 sh_42 (by decide) rfl (by decide) (u_209  w1624 g0 ⟨by omega, by omega⟩) (fun R1635 T1636 H1637 p1638 => ?_))
              obtain ⟨e1639, w1641, f1642, z1643, e1640, b1644, p1645⟩ := p1638
              subst e1639
              subst e1640
              obtain ⟨a1646, a1647, a1648⟩ := p1645
              have f1649 := f1628.tr f1642 rfl
              show wp _ _ 245 71 [(3, vI z1583), (0, .ref r0), (1, vI a1), (2, vI a2)] [vI z1643] _ H1637 _
              have k1650 : wKI H1637 r0 = wKI H1577 r0 := ((wKI_fr w1624 g0 f1642 rfl).trans (wKI_fr w1581 g0 f1625 rfl))
              have h1651 : KNN T H1637 r0 e d := (KNN_fr w1624 g0 f1642 rfl (KNN_fr w1581 g0 f1625 rfl a1593))
              exact wp_ireturn e245 c245_71 rfl ⟨rfl, w1641, f1649, z1643, rfl, ⟨by omega, by omega⟩, (Or.inr ⟨by omega, by omega, by omega, h1651⟩)⟩
            · exfalso
              omega
          · refine wp_of e245 c245_39 (rw_iconst (pc' := 40) rfl ?_)
            refine wp_of e245 c245_40 (rw_istore_n (pc' := 41) (z := 1) (L' := [(3, vI 1), (0, .ref r0), (1, vI a1), (2, vI a2)]) rfl rfl rfl ?_)
            refine wp_of e245 c245_41 (rw_iload_n (pc' := 42) (z := 1) rfl rfl ?_)
            refine wp_of e245 c245_42 (rw_if_le (p1 := 51) (p2 := 45) (by decide) rfl ⟨by omega, by omega⟩ (fun c1652 => ?_) (fun c1652 => ?_))
            · exfalso
              omega
            · refine wp_of e245 c245_45 (rw_aload_n (pc' := 46) (v := .ref r0) rfl rfl rfl ?_)
              refine wp_of e245 c245_46 (rw_iload_n (pc' := 47) (z := 1) rfl rfl ?_)
              refine wp_of e245 c245_47 (xc_V (pc' := 50) (r := r0) (as := [vI 1]) (st := []) (lm_9_54) rfl rfl (Nat.le_of_ble_eq_true rfl) w1581 g0 sh_42 (by decide) rfl (by decide) (u_170  w1581 g0 ⟨by omega, by omega⟩) (fun R1653 T1654 H1655 p1656 => ?_))
              obtain ⟨e1657, w1659, f1660, z1661, e1658, b1662, p1663⟩ := p1656
              subst e1657
              subst e1658
              obtain ⟨a1664, a1665, a1666⟩ := p1663
              have f1667 := f1602.tr f1660 rfl
              show wp _ _ 245 50 [(3, vI 1), (0, .ref r0), (1, vI a1), (2, vI a2)] [vI z1661] _ H1655 _
              have k1668 : wKI H1655 r0 = wKI H1577 r0 := (wKI_fr w1581 g0 f1660 rfl)
              have h1669 : KNN T H1655 r0 e d := (KNN_fr w1581 g0 f1660 rfl a1593)
              exact wp_ireturn e245 c245_50 rfl ⟨rfl, w1659, f1667, z1661, rfl, ⟨by omega, by omega⟩, (Or.inl ⟨by omega, by omega, by omega, h1669⟩)⟩
      · have f1670 := f1334.tr f1582 rfl
        show wp _ _ 245 26 [(0, .ref r0), (1, vI a1), (2, vI a2)] [vI z1583] _ H1577 _
        refine wp_of e245 c245_26 (rw_istore_n (pc' := 27) (z := z1583) (L' := [(3, vI z1583), (0, .ref r0), (1, vI a1), (2, vI a2)]) rfl rfl rfl ?_)
        refine wp_of e245 c245_27 (rw_iload_n (pc' := 28) (z := z1583) rfl rfl ?_)
        refine wp_of e245 c245_28 (rw_if_ne (p1 := 41) (p2 := 31) (by decide) rfl ⟨by omega, by omega⟩ (fun c1671 => ?_) (fun c1671 => ?_))
        · refine wp_of e245 c245_41 (rw_iload_n (pc' := 42) (z := z1583) rfl rfl ?_)
          refine wp_of e245 c245_42 (rw_if_le (p1 := 51) (p2 := 45) (by decide) rfl ⟨by omega, by omega⟩ (fun c1672 => ?_) (fun c1672 => ?_))
          · exfalso
            omega
          · refine wp_of e245 c245_45 (rw_aload_n (pc' := 46) (v := .ref r0) rfl rfl rfl ?_)
            refine wp_of e245 c245_46 (rw_iload_n (pc' := 47) (z := z1583) rfl rfl ?_)
            refine wp_of e245 c245_47 (xc_V (pc' := 50) (r := r0) (as := [vI z1583]) (st := []) (lm_9_54) rfl rfl (Nat.le_of_ble_eq_true rfl) w1581 g0 sh_42 (by decide) rfl (by decide) (u_170  w1581 g0 ⟨by omega, by omega⟩) (fun R1673 T1674 H1675 p1676 => ?_))
            obtain ⟨e1677, w1679, f1680, z1681, e1678, b1682, p1683⟩ := p1676
            subst e1677
            subst e1678
            obtain ⟨a1684, a1685, a1686⟩ := p1683
            have f1687 := f1670.tr f1680 rfl
            show wp _ _ 245 50 [(3, vI z1583), (0, .ref r0), (1, vI a1), (2, vI a2)] [vI z1681] _ H1675 _
            have k1688 : wKI H1675 r0 = wKI H1577 r0 := (wKI_fr w1581 g0 f1680 rfl)
            have h1689 : KNN T H1675 r0 e d := (KNN_fr w1581 g0 f1680 rfl a1601)
            exact wp_ireturn e245 c245_50 rfl ⟨rfl, w1679, f1687, z1681, rfl, ⟨by omega, by omega⟩, (Or.inl ⟨by omega, by omega, by omega, h1689⟩)⟩
        · exfalso
          omega
    · exfalso
      omega
