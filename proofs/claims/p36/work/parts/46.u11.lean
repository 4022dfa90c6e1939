/-! what methods do (own work, written by wip/gen3/sx3.py) -/
/-! StrikeAwakeModel.barsOf(I)I  -/
abbrev uq_274 (r0 : Nat) (a1 : Int) (pp : Nat) (e : xD) (d : xD) (T : wq_T) (H : wq_H) : Option Value → wq_T → wq_H → Prop := fun r T' H' => T = T' ∧ WT T H' ∧ wfr [(51, 999)] T H H' ∧ ∃ z : Int, some (vI z) = r ∧ ((-1000) ≤ z ∧ z ≤ 24) ∧ (((XBR (xtq d (a1).toNat) (xfv e d) (xlots d).toNat z)))
set_option maxHeartbeats 4000000 in
theorem u_274 {kt : Nat → Option mc_E} {T : wq_T} {H : wq_H} {r0 : Nat} {a1 : Int} {pp : Nat} {e : xD} {d : xD} (hW : WT T H) (g0 : T.2.2.2 r0 = some 42) (i1 : 0 ≤ a1 ∧ a1 ≤ 3) (qpp : H r0 3 = (pp : Int)) (gpp : T.2.2.2 pp = some 54) (p0 : XW d) (p1 : ∀ h : Nat, d 0 0 ≤ (h : Int) → h < 24 → e 13 h = 0) (p2 : XN d) (p3 : ∀ h : Nat, h < 24 → 0 ≤ e 13 h ∧ e 13 h ≤ 100) (p4 : a1 < d 0 6) (p5 : xlots d ≤ 20000) (hRB_r0 : RB T H r0 e d) : wpc kt 5 274 [.ref r0, vI a1] T H (uq_274 r0 a1 pp e d T H) := by
  refine wp_enter e274 (Nat.le_of_ble_eq_true rfl) rfl ?_
  have f0 : wfr [(51, 999)] T H H := wfr.rf
  show wp _ _ 274 0 [(0, .ref r0), (1, vI a1)] [] _ H _
  have b1647 : (-2147483648) ≤ H r0 19 ∧ H r0 19 ≤ 2147483647 := hW.box g0 (n := 33) rfl (by decide) rfl
  have h1648 : MA22 T H pp (d 14) := RP_22 (RB_at hRB_r0 qpp)
  have _xw := (by assumption : XW d)
  have _xc := _xw.2.1
  unfold XC at _xc
  have _n3 : H r0 3 ≠ -1 := by omega
  have _k := RP_k (RB_at hRB_r0 qpp)
  have _lm := RB_lm hRB_r0
  have _x0 : 0 ≤ xlots d := (xpr_b _xw.1 _ _).1
  have _ar := RB_ar hRB_r0 (by omega)
  have _pk := _ar.1
  have h1649 : LB24 T H r0 (xas d) (xsq d) := _ar.2.2.2.2.2.2.1
  obtain ⟨dm, _dq, _ds⟩ := (RB_at hRB_r0 qpp).2.1
  have _al : H r0 19 = xal dm := by rw [_k.2.2.2.2.2.2.2.2.2.1, _ds]; rfl
  have _d6 : d 0 6 = dm 0 6 := by rw [_ds]; rfl
  have _alb := @xal_b d
  refine wp_of e274 c274_0 (rw_aload_n (pc' := 1) (v := .ref r0) rfl rfl rfl ?_)
  refine wp_of e274 c274_1 (xg_K (pc' := 4) lf_9_337 hW g0 sh_42 (by decide) (by decide) rfl qpp rfl ?_)
  refine wp_of e274 c274_4 (xg_R (pc' := 7) lf_9_312 hW gpp sh_54 (by decide) (by decide) ty_54_22 rfl rfl (fun r1650 q1651 g1652 => ?_))
  refine wp_of e274 c274_7 (rw_iload_n (pc' := 8) (z := a1) rfl rfl ?_)
  have _x14 := _xw.2.2.2.2.2.1 (a1).toNat (by omega)
  unfold xwB at _x14
  refine wp_of e274 c274_8 (xa_I (so := 0) (pc' := 9) hW g1652 sh_68 (by decide) (ty_68 _) (i1.1) (Int.lt_of_le_of_lt i1.2 (by decide)) rfl (fun b1653 b1654 => ?_))
  have := MA_at h1648 q1651 (k := (a1.toNat)) (by omega)
  refine wp_of e274 c274_9 (rw_istore_n (pc' := 10) (z := H r1650 (a1.toNat)) (L' := [(2, vI (H r1650 (a1.toNat))), (0, .ref r0), (1, vI a1)]) rfl rfl rfl ?_)
  refine wp_of e274 c274_10 (rw_aload_n (pc' := 11) (v := .ref r0) rfl rfl rfl ?_)
  refine wp_of e274 c274_11 (xg_K (pc' := 14) lf_9_337 hW g0 sh_42 (by decide) (by decide) rfl qpp rfl ?_)
  have h1655 : MA23 T H pp (dm 15) := _dq.2.2.2.2.2.2.2.2.2.2.2.2.2.2.2.2.1
  refine wp_of e274 c274_14 (xg_R (pc' := 17) lf_9_315 hW gpp sh_54 (by decide) (by decide) ty_54_23 rfl rfl (fun r1656 q1657 g1658 => ?_))
  refine wp_of e274 c274_17 (rw_iload_n (pc' := 18) (z := a1) rfl rfl ?_)
  refine wp_of e274 c274_18 (xa_I (so := 0) (pc' := 19) hW g1658 sh_69 (by decide) (ty_69 _) (i1.1) (Int.lt_of_le_of_lt i1.2 (by decide)) rfl (fun b1659 b1660 => ?_))
  have := MA_at h1655 q1657 (k := (a1.toNat)) (by omega)
  refine wp_of e274 c274_19 (rw_aload_n (pc' := 20) (v := .ref r0) rfl rfl rfl ?_)
  refine wp_of e274 c274_20 (xg_I (pc' := 23) lf_9_343 hW g0 sh_42 (by decide) (by decide) ty_42_19 rfl rfl (fun b1661 b1662 => ?_))
  refine wp_of e274 c274_23 (rw_iand (pc' := 24) rfl ?_)
  obtain ⟨v1663, e1664⟩ : ∃ x : Int, x = wq_and (H r1656 (a1.toNat)) (H r0 19) := ⟨_, rfl⟩
  rw [← e1664]
  have b1665 : -2147483648 ≤ v1663 ∧ v1663 ≤ 2147483647 := by
    rw [e1664]
    exact wI_and _ _
  have _t15 : v1663 = d 15 (a1).toNat := by
    rw [e1664, show (H r1656 (a1.toNat)) = dm 15 (a1).toNat by omega, show (H r0 19) = xal dm by omega, _ds]
    exact (x15_k (by omega)).symm
  have _x15 := _xw.2.2.2.2.2.2.1 (a1).toNat (by omega)
  unfold xhB at _x15
  refine wp_of e274 c274_24 (rw_istore_n (pc' := 25) (z := v1663) (L' := [(3, vI v1663), (2, vI (H r1650 (a1.toNat))), (0, .ref r0), (1, vI a1)]) rfl rfl rfl ?_)
  refine wp_of e274 c274_25 (rw_sipush (pc' := 28) (z := -1000) rfl (by decide) ?_)
  refine wp_of e274 c274_28 (rw_istore (pc' := 30) (z := -1000) (L' := [(4, vI (-1000)), (3, vI v1663), (2, vI (H r1650 (a1.toNat))), (0, .ref r0), (1, vI a1)]) rfl rfl rfl ?_)
  refine wp_of e274 c274_30 (rw_iconst (pc' := 31) rfl ?_)
  refine wp_of e274 c274_31 (rw_istore (pc' := 33) (z := 0) (L' := [(5, vI 0), (4, vI (-1000)), (3, vI v1663), (2, vI (H r1650 (a1.toNat))), (0, .ref r0), (1, vI a1)]) rfl rfl rfl ?_)
  have lp2226 : ∀ (n2227 : Nat) (v2229 : Int) (v2230 : Int) (H2231 : wq_H), WT T H2231 → wfr [(51, 999)] T H H2231 → (0 ≤ v2229 ∧ v2229 ≤ 20000) → ((-1000) ≤ v2230 ∧ v2230 ≤ 24) → (v2229 ≤ xlots d) → (XBR (xtq d (a1).toNat) (xfv e d) (v2229).toNat v2230) → (20000 - v2229).toNat = n2227 → wp kt 4 274 33 [(5, vI v2229), (4, vI v2230), (3, vI v1663), (2, vI (H r1650 (a1.toNat))), (0, .ref r0)] [] T H2231 (uq_274 r0 a1 pp e d T H) := by
    intro n2227
    induction n2227 using Nat.strongRecOn with
    | _ n2227 ih2228 =>
      intro v2229 v2230 H2231 w2232 f2233 b2234 b2235 x2237 x2238 m2236
      have f2239 := f0.tr f2233 rfl
      refine wp_of e274 c274_33 (rw_iload (pc' := 35) (z := v2229) rfl rfl ?_)
      refine wp_of e274 c274_35 (rw_i2l (pc' := 36) rfl ⟨Int.le_trans (by decide) b2234.1, Int.le_trans b2234.2 (by decide)⟩ ?_)
      have k2240 : wLM H2231 r0 = wLM H r0 := (wLM_fr hW g0 f2233 rfl)
      refine wp_of e274 c274_36 (rw_aload_n (pc' := 37) (v := .ref r0) rfl rfl rfl ?_)
      have k2241 : H2231 r0 3 = H r0 3 := (f2233 r0 3 _ g0 rfl)
      have q2242 : H2231 r0 3 = (pp : Int) := k2241.trans qpp
      refine wp_of e274 c274_37 (xc_V (pc' := 40) (r := r0) (as := []) (st := [vL v2229]) (lm_9_376) rfl rfl (Nat.le_of_ble_eq_true rfl) w2232 g0 sh_42 (by decide) rfl (by decide) (s_220 w2232 g0 q2242 gpp) (fun R2243 T2244 H2245 p2246 => ?_))
      obtain ⟨e2247, e2249, z2251, e2248, b2252, p2250⟩ := p2246
      subst e2247
      subst e2248
      subst e2249
      show wp _ _ 274 40 [(5, vI v2229), (4, vI v2230), (3, vI v1663), (2, vI (H r1650 (a1.toNat))), (0, .ref r0)] [vL z2251, vL v2229] _ H2231 _
      refine wp_of e274 c274_40 (rw_lcmp (pc' := 41) rfl ⟨Int.le_trans (by decide) b2234.1, Int.le_trans b2234.2 (by decide)⟩ ⟨Int.le_trans (by decide) b2252.1, Int.le_trans b2252.2 (by decide)⟩ ?_)
      have b2253 := wq_cmp_b v2229 z2251
      refine wp_of e274 c274_41 (rw_if_ge (p1 := 123) (p2 := 44) (by decide) rfl ⟨by omega, by omega⟩ (fun c2254 => ?_) (fun c2254 => ?_))
      · refine wp_of e274 c274_123 (rw_iload (pc' := 125) (z := v2230) rfl rfl ?_)
        exact wp_ireturn e274 c274_125 rfl ⟨rfl, w2232, f2239, v2230, rfl, ⟨b2235.1, b2235.2⟩, (by rw [show (xlots d).toNat = (v2229).toNat by omega]; assumption)⟩
      · refine wp_of e274 c274_44 (rw_aload_n (pc' := 45) (v := .ref r0) rfl rfl rfl ?_)
        refine wp_of e274 c274_45 (rw_iload (pc' := 47) (z := v2229) rfl rfl ?_)
        have h2255 : RB T H2231 r0 e d := (RB_fr hW g0 f2233 rfl hRB_r0)
        refine wp_of e274 c274_47 (xc_V (pc' := 50) (r := r0) (as := [vI v2229]) (st := []) (lm_9_425) rfl rfl (Nat.le_of_ble_eq_true rfl) w2232 g0 sh_42 (by decide) rfl (by decide) (u_243 (e := e) (d := d) w2232 g0 ⟨b2234.1, Int.le_trans b2234.2 (by decide)⟩ q2242 gpp (by omega) h2255) (fun R2256 T2257 H2258 p2259 => ?_))
        obtain ⟨e2260, w2262, f2263, e2261, p2264⟩ := p2259
        subst e2260
        subst e2261
        have f2266 := f2239.tr f2263 rfl
        have f2267 := f2233.tr f2263 rfl
        show wp _ _ 274 50 [(5, vI v2229), (4, vI v2230), (3, vI v1663), (2, vI (H r1650 (a1.toNat))), (0, .ref r0)] [] _ H2258 _
        have _sl : SL d (xlot d v2229) := SL_lot _xw.1 (by omega) (by omega)
        refine wp_of e274 c274_50 (rw_iload_n (pc' := 51) (z := v1663) rfl rfl ?_)
        refine wp_of e274 c274_51 (rw_aload_n (pc' := 52) (v := .ref r0) rfl rfl rfl ?_)
        refine wp_of e274 c274_52 (xg_R (pc' := 55) lf_9_30 w2262 g0 sh_42 (by decide) (by decide) ty_42_24 rfl rfl (fun r2268 q2269 g2270 => ?_))
        refine wp_of e274 c274_55 (rw_bipush (pc' := 57) (z := 40) rfl (by decide) ?_)
        refine wp_of e274 c274_57 (rw_iload_n (pc' := 58) (z := H r1650 (a1.toNat)) rfl rfl ?_)
        refine wp_of e274 c274_58 (rw_imul (pc' := 59) rfl ?_)
        refine wp_of e274 c274_59 (rw_aload_n (pc' := 60) (v := .ref r0) rfl rfl rfl ?_)
        refine wp_of e274 c274_60 (xg_R (pc' := 63) lf_9_39 w2262 g0 sh_42 (by decide) (by decide) ty_42_27 rfl rfl (fun r2271 q2272 g2273 => ?_))
        refine wp_of e274 c274_63 (rw_iload_n (pc' := 64) (z := H r1650 (a1.toNat)) rfl rfl ?_)
        have _sk := _sl ((H r1650 (a1.toNat))).toNat (by omega)
        refine wp_of e274 c274_64 (xa_I (so := 0) (pc' := 65) w2262 g2273 sh_51 (by decide) (ty_51 _) (b1653) (Int.lt_of_le_of_lt b1654 (by decide)) rfl (fun b2274 b2275 => ?_))
        have := LR_at p2264 q2272 (k := ((H r1650 (a1.toNat)).toNat)) (by omega) (by omega)
        refine wp_of e274 c274_65 (rw_iadd (pc' := 66) rfl ?_)
        have h2276 : LB24 T H2258 r0 (xas d) (xsq d) := (LB24_fr w2232 g0 f2263 rfl (LB24_fr hW g0 f2233 rfl h1649))
        have _lx := LB_x h2276 q2269 (k := ((H r1650 (a1.toNat))).toNat) (i := (xlot d v2229 ((H r1650 (a1.toNat))).toNat).toNat) (s := ((40 * (H r1650 (a1.toNat))) + (H2258 r2271 ((H r1650 (a1.toNat)).toNat))).toNat) (by omega) (by omega) (by omega) _pk (by omega)
        have _x : xas d ((H r1650 (a1.toNat))).toNat ((xsp d ((H r1650 (a1.toNat))).toNat).getD (xlot d v2229 ((H r1650 (a1.toNat))).toNat).toNat (0, 0)) = xsb d (xlot d v2229) ((H r1650 (a1.toNat))).toNat := rfl
        refine wp_of e274 c274_66 (xa_I (so := 0) (pc' := 67) w2262 g2270 sh_48 (by decide) (ty_48 _) (by omega) (by omega) rfl (fun b2277 b2278 => ?_))
        refine wp_of e274 c274_67 (rw_iconst (pc' := 68) rfl ?_)
        refine wp_of e274 c274_68 (rw_ixor (pc' := 69) rfl ?_)
        obtain ⟨v2279, e2280⟩ : ∃ x : Int, x = wq_xor (H2258 r2268 (((40 * (H r1650 (a1.toNat))) + (H2258 r2271 ((H r1650 (a1.toNat)).toNat))).toNat)) (-1) := ⟨_, rfl⟩
        rw [← e2280]
        have b2281 : -2147483648 ≤ v2279 ∧ v2279 ≤ 2147483647 := by
          rw [e2280]
          exact wI_xor _ _
        refine wp_of e274 c274_69 (rw_iand (pc' := 70) rfl ?_)
        obtain ⟨v2282, e2283⟩ : ∃ x : Int, x = wq_and v1663 v2279 := ⟨_, rfl⟩
        rw [← e2283]
        have b2284 : -2147483648 ≤ v2282 ∧ v2282 ≤ 2147483647 := by
          rw [e2283]
          exact wI_and _ _
        have _wa := wq_an (a := v1663) (y := H2258 r2268 (((40 * (H r1650 (a1.toNat))) + (H2258 r2271 ((H r1650 (a1.toNat)).toNat))).toNat)) ⟨by omega, by omega⟩
        rw [← e2280, ← e2283] at _wa
        have _ts := xts_i (A := H2258 r2268 (((40 * (H r1650 (a1.toNat))) + (H2258 r2271 ((H r1650 (a1.toNat)).toNat))).toNat)) (S := v1663) (t := (a1).toNat) (K := ((H r1650 (a1.toNat))).toNat) (v := v2229) (by omega) (by omega) (by omega) (by omega)
        refine wp_of e274 c274_70 (rw_if_ne (p1 := 117) (p2 := 73) (by decide) rfl ⟨b2284.1, b2284.2⟩ (fun c2285 => ?_) (fun c2285 => ?_))
        · have _q : XBR (xtq d (a1).toNat) (xfv e d) (v2229 + 1).toNat v2230 := by
            rw [show (v2229 + 1).toNat = (v2229).toNat + 1 by omega]
            exact XBR_n (by first | exact xtq_nq (by omega) (by omega) | exact xtq_nt (fun c9 => by have := _wa.mpr (_ts.mpr c9); omega)) (by assumption : XBR (xtq d (a1).toNat) (xfv e d) (v2229).toNat v2230)
          refine wp_of e274 c274_117 (rw_iinc (pc' := 120) (z := v2229) (L' := [(5, vI (v2229 + 1)), (4, vI v2230), (3, vI v1663), (2, vI (H r1650 (a1.toNat))), (0, .ref r0)]) rfl rfl rfl rfl ?_)
          refine wp_of e274 c274_120 (rw_goto (p1 := 33) (by decide) ?_)
          exact wp_lc (ks := [5, 4, 3, 2, 0]) (wl_c rfl (wl_c rfl (wl_c rfl (wl_c rfl (wl_c rfl wl_n))))) rfl (by decide) (ih2228 _ (by omega) (v2229 + 1) v2230 H2258 w2262 f2267 ⟨by omega, by omega⟩ ⟨b2235.1, b2235.2⟩ (by omega) (_q) rfl)
        · refine wp_of e274 c274_73 (rw_aload_n (pc' := 74) (v := .ref r0) rfl rfl rfl ?_)
          refine wp_of e274 c274_74 (rw_aload_n (pc' := 75) (v := .ref r0) rfl rfl rfl ?_)
          refine wp_of e274 c274_75 (xg_K (pc' := 78) lf_9_39 w2262 g0 sh_42 (by decide) (by decide) rfl q2272 rfl ?_)
          have h2286 : RR T H2258 r2271 (d 0 3) (xlot d v2229) := RR_27 p2264 q2272 g2273 (by omega)
          have k2287 : H2258 r0 3 = H2231 r0 3 := (f2263 r0 3 _ g0 rfl)
          have q2288 : H2258 r0 3 = (pp : Int) := k2287.trans q2242
          have h2289 : RB T H2258 r0 e d := (RB_fr w2232 g0 f2263 rfl h2255)
          refine wp_of e274 c274_78 (xc_V (pc' := 81) (r := r0) (as := [.ref r2271]) (st := []) (lm_9_393) rfl rfl (Nat.le_of_ble_eq_true rfl) w2262 g0 sh_42 (by decide) rfl (by decide) (u_235_l (e := e) (d := d) (g := ((xlot d v2229))) w2262 g0 g2273 q2288 gpp (by assumption) (by assumption) (by assumption) h2289 h2286) (fun R2290 T2291 H2292 p2293 => ?_))
          obtain ⟨e2294, e2296, z2297, e2295, b2298, p2299⟩ := p2293
          subst e2294
          subst e2295
          subst e2296
          show wp _ _ 274 81 [(5, vI v2229), (4, vI v2230), (3, vI v1663), (2, vI (H r1650 (a1.toNat))), (0, .ref r0)] [vI z2297] _ H2258 _
          refine wp_of e274 c274_81 (rw_if_eq (p1 := 87) (p2 := 84) (by decide) rfl ⟨Int.le_trans (by decide) b2298.1, Int.le_trans b2298.2 (by decide)⟩ (fun c2301 => ?_) (fun c2301 => ?_))
          · refine wp_of e274 c274_87 (rw_aload_n (pc' := 88) (v := .ref r0) rfl rfl rfl ?_)
            refine wp_of e274 c274_88 (rw_aload_n (pc' := 89) (v := .ref r0) rfl rfl rfl ?_)
            refine wp_of e274 c274_89 (xg_K (pc' := 92) lf_9_39 w2262 g0 sh_42 (by decide) (by decide) rfl q2272 rfl ?_)
            refine wp_of e274 c274_92 (rw_aload_n (pc' := 93) (v := .ref r0) rfl rfl rfl ?_)
            have k2302 : H2258 r0 19 = H r0 19 := ((f2263 r0 19 _ g0 rfl).trans (f2233 r0 19 _ g0 rfl))
            refine wp_of e274 c274_93 (xg_I (pc' := 96) lf_9_343 w2262 g0 sh_42 (by decide) (by decide) ty_42_19 rfl rfl (fun b2303 b2304 => ?_))
            have h2305 : RR T H2258 r2271 (d 0 3) (xlot d v2229) := RR_27 p2264 q2272 g2273 (by omega)
            refine wp_of e274 c274_96 (xc_V (pc' := 99) (r := r0) (as := [.ref r2271, vI (H2258 r0 19)]) (st := []) (lm_9_397) rfl rfl (Nat.le_of_ble_eq_true rfl) w2262 g0 sh_42 (by decide) rfl (by decide) (u_239_l (e := e) (d := d) (g := ((xlot d v2229))) w2262 g0 g2273 ⟨by omega, by omega⟩ q2288 gpp (by assumption) (by assumption) (by assumption) (by assumption) h2289 h2305) (fun R2306 T2307 H2308 p2309 => ?_))
            obtain ⟨e2310, e2312, z2313, e2311, b2314, p2315⟩ := p2309
            subst e2310
            subst e2311
            subst e2312
            show wp _ _ 274 99 [(5, vI v2229), (4, vI v2230), (3, vI v1663), (2, vI (H r1650 (a1.toNat))), (0, .ref r0)] [vI z2313] _ H2258 _
            have _ft : xtq d (a1).toNat (v2229).toNat > 0 := xtq_yi (by omega) (by omega) (_ts.mp (_wa.mp (by omega)))
            have _fb : XFB (xvy e d (xlot d v2229)) (d 0 2) 24 z2313 := XFB_cg (xbh_al ⟨by omega, by omega⟩ (by assumption)) (by rw [← show H2258 r0 19 = xal d by omega]; assumption)
            have _fv : xfv e d (v2229).toNat z2313 := xfv_i (by omega) _fb
            have _f24 := XFB_b _fb
            refine wp_of e274 c274_99 (rw_istore (pc' := 101) (z := z2313) (L' := [(6, vI z2313), (5, vI v2229), (4, vI v2230), (3, vI v1663), (2, vI (H r1650 (a1.toNat))), (0, .ref r0)]) rfl rfl rfl ?_)
            refine wp_of e274 c274_101 (rw_iload (pc' := 103) (z := z2313) rfl rfl ?_)
            refine wp_of e274 c274_103 (rw_iload (pc' := 105) (z := v2230) rfl rfl ?_)
            refine wp_of e274 c274_105 (rw_icmp_le (p1 := 113) (p2 := 108) (by decide) rfl ⟨Int.le_trans (by decide) b2314.1, Int.le_trans b2314.2 (by decide)⟩ ⟨Int.le_trans (by decide) b2235.1, Int.le_trans b2235.2 (by decide)⟩ (fun c2317 => ?_) (fun c2317 => ?_))
            · refine wp_of e274 c274_113 (rw_iload (pc' := 115) (z := v2230) rfl rfl ?_)
              refine wp_of e274 c274_115 (rw_istore (pc' := 117) (z := v2230) (L' := [(4, vI v2230), (6, vI z2313), (5, vI v2229), (3, vI v1663), (2, vI (H r1650 (a1.toNat))), (0, .ref r0)]) rfl rfl rfl ?_)
              have _q : XBR (xtq d (a1).toNat) (xfv e d) (v2229 + 1).toNat v2230 := by
                rw [show (v2229 + 1).toNat = (v2229).toNat + 1 by omega]
                exact XBR_y _ft _fv (by omega) (by assumption : XBR (xtq d (a1).toNat) (xfv e d) (v2229).toNat v2230) (by omega)
              refine wp_of e274 c274_117 (rw_iinc (pc' := 120) (z := v2229) (L' := [(5, vI (v2229 + 1)), (4, vI v2230), (6, vI z2313), (3, vI v1663), (2, vI (H r1650 (a1.toNat))), (0, .ref r0)]) rfl rfl rfl rfl ?_)
              refine wp_of e274 c274_120 (rw_goto (p1 := 33) (by decide) ?_)
              exact wp_lc (ks := [5, 4, 6, 3, 2, 0]) (wl_c rfl (wl_c rfl (wl_c rfl (wl_c rfl (wl_c rfl wl_n))))) rfl (by decide) (ih2228 _ (by omega) (v2229 + 1) v2230 H2258 w2262 f2267 ⟨by omega, by omega⟩ ⟨b2235.1, b2235.2⟩ (by omega) (_q) rfl)
            · refine wp_of e274 c274_108 (rw_iload (pc' := 110) (z := z2313) rfl rfl ?_)
              refine wp_of e274 c274_110 (rw_goto (p1 := 115) (by decide) ?_)
              refine wp_of e274 c274_115 (rw_istore (pc' := 117) (z := z2313) (L' := [(4, vI z2313), (6, vI z2313), (5, vI v2229), (3, vI v1663), (2, vI (H r1650 (a1.toNat))), (0, .ref r0)]) rfl rfl rfl ?_)
              have _q : XBR (xtq d (a1).toNat) (xfv e d) (v2229 + 1).toNat z2313 := by
                rw [show (v2229 + 1).toNat = (v2229).toNat + 1 by omega]
                exact XBR_y _ft _fv (by omega) (by assumption : XBR (xtq d (a1).toNat) (xfv e d) (v2229).toNat v2230) (by omega)
              refine wp_of e274 c274_117 (rw_iinc (pc' := 120) (z := v2229) (L' := [(5, vI (v2229 + 1)), (4, vI z2313), (6, vI z2313), (3, vI v1663), (2, vI (H r1650 (a1.toNat))), (0, .ref r0)]) rfl rfl rfl rfl ?_)
              refine wp_of e274 c274_120 (rw_goto (p1 := 33) (by decide) ?_)
              exact wp_lc (ks := [5, 4, 6, 3, 2, 0]) (wl_c rfl (wl_c rfl (wl_c rfl (wl_c rfl (wl_c rfl wl_n))))) rfl (by decide) (ih2228 _ (by omega) (v2229 + 1) z2313 H2258 w2262 f2267 ⟨by omega, by omega⟩ ⟨Int.le_trans (by decide) b2314.1, b2314.2⟩ (by omega) (_q) rfl)
          · refine wp_of e274 c274_84 (rw_goto (p1 := 117) (by decide) ?_)
            have _q : XBR (xtq d (a1).toNat) (xfv e d) (v2229 + 1).toNat v2230 := by
              rw [show (v2229 + 1).toNat = (v2229).toNat + 1 by omega]
              exact XBR_n (by first | exact xtq_nq (by omega) (by omega) | exact xtq_nt (fun c9 => by have := _wa.mpr (_ts.mpr c9); omega)) (by assumption : XBR (xtq d (a1).toNat) (xfv e d) (v2229).toNat v2230)
            refine wp_of e274 c274_117 (rw_iinc (pc' := 120) (z := v2229) (L' := [(5, vI (v2229 + 1)), (4, vI v2230), (3, vI v1663), (2, vI (H r1650 (a1.toNat))), (0, .ref r0)]) rfl rfl rfl rfl ?_)
            refine wp_of e274 c274_120 (rw_goto (p1 := 33) (by decide) ?_)
            exact wp_lc (ks := [5, 4, 3, 2, 0]) (wl_c rfl (wl_c rfl (wl_c rfl (wl_c rfl (wl_c rfl wl_n))))) rfl (by decide) (ih2228 _ (by omega) (v2229 + 1) v2230 H2258 w2262 f2267 ⟨by omega, by omega⟩ ⟨b2235.1, b2235.2⟩ (by omega) (_q) rfl)
  exact wp_lc (ks := [5, 4, 3, 2, 0, 1]) (wl_c rfl (wl_c rfl (wl_c rfl (wl_c rfl (wl_c rfl wl_n))))) rfl (by decide) (lp2226 _ 0 (-1000) H hW wfr.rf ⟨by decide, by decide⟩ ⟨by decide, by decide⟩ (by omega) (XBR_0) rfl)
/-! StrikeAwakeModel.proves(I)Z  -/
abbrev uq_278 (r0 : Nat) (a1 : Int) (pp : Nat) (e : xD) (d : xD) (T : wq_T) (H : wq_H) : Option Value → wq_T → wq_H → Prop := fun r T' H' => T = T' ∧ WT T H' ∧ wfr [(51, 999)] T H H' ∧ ∃ z : Int, some (vI z) = r ∧ (0 ≤ z ∧ z ≤ 1) ∧ (((z = 1) ∧ (XPV e d (xlots d).toNat a1)) ∨ ((z = 0) ∧ (¬ XPV e d (xlots d).toNat a1)))
set_option maxHeartbeats 4000000 in
theorem u_278 {kt : Nat → Option mc_E} {T : wq_T} {H : wq_H} {r0 : Nat} {a1 : Int} {pp : Nat} {e : xD} {d : xD} (hW : WT T H) (g0 : T.2.2.2 r0 = some 42) (i1 : 0 ≤ a1 ∧ a1 ≤ 16777215) (qpp : H r0 3 = (pp : Int)) (gpp : T.2.2.2 pp = some 54) (p0 : XW d) (p1 : ∀ h : Nat, d 0 0 ≤ (h : Int) → h < 24 → e 13 h = 0) (p2 : XN d) (p3 : ∀ h : Nat, h < 24 → 0 ≤ e 13 h ∧ e 13 h ≤ 100) (p4 : 0 < xlots d) (p5 : xlots d ≤ 20000) (hRB_r0 : RB T H r0 e d) : wpc kt 5 278 [.ref r0, vI a1] T H (uq_278 r0 a1 pp e d T H) := by
  refine wp_enter e278 (Nat.le_of_ble_eq_true rfl) rfl ?_
  have f0 : wfr [(51, 999)] T H H := wfr.rf
  show wp _ _ 278 0 [(0, .ref r0), (1, vI a1)] [] _ H _
  have _xw := (by assumption : XW d)
  have _xc := _xw.2.1
  unfold XC at _xc
  have _n3 : H r0 3 ≠ -1 := by omega
  have _k := RP_k (RB_at hRB_r0 qpp)
  have _lm := RB_lm hRB_r0
  have _x0 : 0 ≤ xlots d := (xpr_b _xw.1 _ _).1
  refine wp_of e278 c278_0 (rw_iconst (pc' := 1) rfl ?_)
  refine wp_of e278 c278_1 (rw_istore_n (pc' := 2) (z := 0) (L' := [(2, vI 0), (0, .ref r0), (1, vI a1)]) rfl rfl rfl ?_)
  have lp1937 : ∀ (n1938 : Nat) (v1940 : Int) (H1941 : wq_H), WT T H1941 → wfr [(51, 999)] T H H1941 → (0 ≤ v1940 ∧ v1940 ≤ 20000) → (v1940 ≤ xlots d) → (∀ n : Nat, (n : Int) < v1940 → XNQ d n → ¬ XLF (xvy e d (xlot d ((n : Nat) : Int))) (d 0 2) a1) → (20000 - v1940).toNat = n1938 → wp kt 4 278 2 [(2, vI v1940), (0, .ref r0), (1, vI a1)] [] T H1941 (uq_278 r0 a1 pp e d T H) := by
    intro n1938
    induction n1938 using Nat.strongRecOn with
    | _ n1938 ih1939 =>
      intro v1940 H1941 w1942 f1943 b1944 x1946 x1947 m1945
      have f1948 := f0.tr f1943 rfl
      refine wp_of e278 c278_2 (rw_iload_n (pc' := 3) (z := v1940) rfl rfl ?_)
      refine wp_of e278 c278_3 (rw_i2l (pc' := 4) rfl ⟨Int.le_trans (by decide) b1944.1, Int.le_trans b1944.2 (by decide)⟩ ?_)
      have k1949 : wLM H1941 r0 = wLM H r0 := (wLM_fr hW g0 f1943 rfl)
      refine wp_of e278 c278_4 (rw_aload_n (pc' := 5) (v := .ref r0) rfl rfl rfl ?_)
      have k1950 : H1941 r0 3 = H r0 3 := (f1943 r0 3 _ g0 rfl)
      have q1951 : H1941 r0 3 = (pp : Int) := k1950.trans qpp
      refine wp_of e278 c278_5 (xc_V (pc' := 8) (r := r0) (as := []) (st := [vL v1940]) (lm_9_376) rfl rfl (Nat.le_of_ble_eq_true rfl) w1942 g0 sh_42 (by decide) rfl (by decide) (s_220 w1942 g0 q1951 gpp) (fun R1952 T1953 H1954 p1955 => ?_))
      obtain ⟨e1956, e1958, z1960, e1957, b1961, p1959⟩ := p1955
      subst e1956
      subst e1957
      subst e1958
      show wp _ _ 278 8 [(2, vI v1940), (0, .ref r0), (1, vI a1)] [vL z1960, vL v1940] _ H1941 _
      refine wp_of e278 c278_8 (rw_lcmp (pc' := 9) rfl ⟨Int.le_trans (by decide) b1944.1, Int.le_trans b1944.2 (by decide)⟩ ⟨Int.le_trans (by decide) b1961.1, Int.le_trans b1961.2 (by decide)⟩ ?_)
      have b1962 := wq_cmp_b v1940 z1960
      refine wp_of e278 c278_9 (rw_if_ge (p1 := 50) (p2 := 12) (by decide) rfl ⟨by omega, by omega⟩ (fun c1963 => ?_) (fun c1963 => ?_))
      · have _z : XPV e d (xlots d).toNat a1 := fun n hn hq => (by assumption : ∀ n : Nat, (n : Int) < v1940 → XNQ d n → ¬ XLF (xvy e d (xlot d ((n : Nat) : Int))) (d 0 2) a1) n (by omega) hq
        refine wp_of e278 c278_50 (rw_iconst (pc' := 51) rfl ?_)
        exact wp_zreturn e278 c278_51 rfl (by omega) ⟨rfl, w1942, f1948, 1, rfl, ⟨by decide, by decide⟩, (Or.inl ⟨by omega, _z⟩)⟩
      · refine wp_of e278 c278_12 (rw_aload_n (pc' := 13) (v := .ref r0) rfl rfl rfl ?_)
        refine wp_of e278 c278_13 (rw_iload_n (pc' := 14) (z := v1940) rfl rfl ?_)
        have h1964 : RB T H1941 r0 e d := (RB_fr hW g0 f1943 rfl hRB_r0)
        refine wp_of e278 c278_14 (xc_V (pc' := 17) (r := r0) (as := [vI v1940]) (st := []) (lm_9_425) rfl rfl (Nat.le_of_ble_eq_true rfl) w1942 g0 sh_42 (by decide) rfl (by decide) (u_243 (e := e) (d := d) w1942 g0 ⟨b1944.1, Int.le_trans b1944.2 (by decide)⟩ q1951 gpp (by omega) h1964) (fun R1965 T1966 H1967 p1968 => ?_))
        obtain ⟨e1969, w1971, f1972, e1970, p1973⟩ := p1968
        subst e1969
        subst e1970
        have f1975 := f1948.tr f1972 rfl
        have f1976 := f1943.tr f1972 rfl
        show wp _ _ 278 17 [(2, vI v1940), (0, .ref r0), (1, vI a1)] [] _ H1967 _
        have _sl : SL d (xlot d v1940) := SL_lot _xw.1 (by omega) (by omega)
        have _cv : (((v1940).toNat : Nat) : Int) = v1940 := by omega
        refine wp_of e278 c278_17 (rw_aload_n (pc' := 18) (v := .ref r0) rfl rfl rfl ?_)
        refine wp_of e278 c278_18 (rw_aload_n (pc' := 19) (v := .ref r0) rfl rfl rfl ?_)
        refine wp_of e278 c278_19 (xg_R (pc' := 22) lf_9_39 w1971 g0 sh_42 (by decide) (by decide) ty_42_27 rfl rfl (fun r1977 q1978 g1979 => ?_))
        have h1980 : RR T H1967 r1977 (d 0 3) (xlot d v1940) := RR_27 p1973 q1978 g1979 (by omega)
        have k1981 : H1967 r0 3 = H1941 r0 3 := (f1972 r0 3 _ g0 rfl)
        have q1982 : H1967 r0 3 = (pp : Int) := k1981.trans q1951
        have h1983 : RB T H1967 r0 e d := (RB_fr w1942 g0 f1972 rfl h1964)
        refine wp_of e278 c278_22 (xc_V (pc' := 25) (r := r0) (as := [.ref r1977]) (st := []) (lm_9_393) rfl rfl (Nat.le_of_ble_eq_true rfl) w1971 g0 sh_42 (by decide) rfl (by decide) (u_235_l (e := e) (d := d) (g := ((xlot d v1940))) w1971 g0 g1979 q1982 gpp (by assumption) (by assumption) (by assumption) h1983 h1980) (fun R1984 T1985 H1986 p1987 => ?_))
        obtain ⟨e1988, e1990, z1991, e1989, b1992, p1993⟩ := p1987
        subst e1988
        subst e1989
        subst e1990
        show wp _ _ 278 25 [(2, vI v1940), (0, .ref r0), (1, vI a1)] [vI z1991] _ H1967 _
        refine wp_of e278 c278_25 (rw_if_ne (p1 := 44) (p2 := 28) (by decide) rfl ⟨Int.le_trans (by decide) b1992.1, Int.le_trans b1992.2 (by decide)⟩ (fun c1995 => ?_) (fun c1995 => ?_))
        · have _q : ∀ n : Nat, (n : Int) < v1940 + 1 → XNQ d n → ¬ XLF (xvy e d (xlot d ((n : Nat) : Int))) (d 0 2) a1 := fun n hn hq => by
            by_cases c0 : (n : Int) < v1940
            · exact (by assumption : ∀ n : Nat, (n : Int) < v1940 → XNQ d n → ¬ XLF (xvy e d (xlot d ((n : Nat) : Int))) (d 0 2) a1) n c0 hq
            · have e9 : n = (v1940).toNat := by omega
              subst e9
              unfold XNQ at hq
              rw [_cv] at hq ⊢
              first
              | exact absurd hq (by omega)
              | exact XLF_n (by assumption) (by omega)
          refine wp_of e278 c278_44 (rw_iinc (pc' := 47) (z := v1940) (L' := [(2, vI (v1940 + 1)), (0, .ref r0), (1, vI a1)]) rfl rfl rfl rfl ?_)
          refine wp_of e278 c278_47 (rw_goto (p1 := 2) (by decide) ?_)
          exact wp_lc (ks := [2, 0, 1]) (wl_c rfl (wl_c rfl (wl_c rfl wl_n))) rfl (by decide) (ih1939 _ (by omega) (v1940 + 1) H1967 w1971 f1976 ⟨by omega, by omega⟩ (by omega) (_q) rfl)
        · refine wp_of e278 c278_28 (rw_aload_n (pc' := 29) (v := .ref r0) rfl rfl rfl ?_)
          refine wp_of e278 c278_29 (rw_aload_n (pc' := 30) (v := .ref r0) rfl rfl rfl ?_)
          refine wp_of e278 c278_30 (xg_K (pc' := 33) lf_9_39 w1971 g0 sh_42 (by decide) (by decide) rfl q1978 rfl ?_)
          refine wp_of e278 c278_33 (rw_iload_n (pc' := 34) (z := a1) rfl rfl ?_)
          have h1996 : RR T H1967 r1977 (d 0 3) (xlot d v1940) := RR_27 p1973 q1978 g1979 (by omega)
          refine wp_of e278 c278_34 (xc_V (pc' := 37) (r := r0) (as := [.ref r1977, vI a1]) (st := []) (lm_9_397) rfl rfl (Nat.le_of_ble_eq_true rfl) w1971 g0 sh_42 (by decide) rfl (by decide) (u_239_l (e := e) (d := d) (g := ((xlot d v1940))) w1971 g0 g1979 ⟨i1.1, i1.2⟩ q1982 gpp (by assumption) (by assumption) (by assumption) (by assumption) h1983 h1996) (fun R1997 T1998 H1999 p2000 => ?_))
          obtain ⟨e2001, e2003, z2004, e2002, b2005, p2006⟩ := p2000
          subst e2001
          subst e2002
          subst e2003
          show wp _ _ 278 37 [(2, vI v1940), (0, .ref r0), (1, vI a1)] [vI z2004] _ H1967 _
          refine wp_of e278 c278_37 (rw_bipush (pc' := 39) (z := 24) rfl (by decide) ?_)
          refine wp_of e278 c278_39 (rw_icmp_ne (p1 := 44) (p2 := 42) (by decide) rfl ⟨Int.le_trans (by decide) b2005.1, Int.le_trans b2005.2 (by decide)⟩ ⟨by decide, by decide⟩ (fun c2008 => ?_) (fun c2008 => ?_))
          · have _q : ∀ n : Nat, (n : Int) < v1940 + 1 → XNQ d n → ¬ XLF (xvy e d (xlot d ((n : Nat) : Int))) (d 0 2) a1 := fun n hn hq => by
              by_cases c0 : (n : Int) < v1940
              · exact (by assumption : ∀ n : Nat, (n : Int) < v1940 → XNQ d n → ¬ XLF (xvy e d (xlot d ((n : Nat) : Int))) (d 0 2) a1) n c0 hq
              · have e9 : n = (v1940).toNat := by omega
                subst e9
                unfold XNQ at hq
                rw [_cv] at hq ⊢
                first
                | exact absurd hq (by omega)
                | exact XLF_n (by assumption) (by omega)
            refine wp_of e278 c278_44 (rw_iinc (pc' := 47) (z := v1940) (L' := [(2, vI (v1940 + 1)), (0, .ref r0), (1, vI a1)]) rfl rfl rfl rfl ?_)
            refine wp_of e278 c278_47 (rw_goto (p1 := 2) (by decide) ?_)
            exact wp_lc (ks := [2, 0, 1]) (wl_c rfl (wl_c rfl (wl_c rfl wl_n))) rfl (by decide) (ih1939 _ (by omega) (v1940 + 1) H1967 w1971 f1976 ⟨by omega, by omega⟩ (by omega) (_q) rfl)
          · have _z : ¬ XPV e d (xlots d).toNat a1 := XPV_s (i := (v1940).toNat) (by omega) (by
              unfold XNQ
              rw [_cv]
              omega) (by
              rw [_cv]
              exact XLF_24 (by rw [← show z2004 = 24 by omega]; assumption))
            refine wp_of e278 c278_42 (rw_iconst (pc' := 43) rfl ?_)
            exact wp_zreturn e278 c278_43 rfl (by omega) ⟨rfl, w1971, f1975, 0, rfl, ⟨by decide, by decide⟩, (Or.inr ⟨by omega, _z⟩)⟩
  exact wp_lc (ks := [2, 0, 1]) (wl_c rfl (wl_c rfl (wl_c rfl wl_n))) rfl (by decide) (lp1937 _ 0 H hW wfr.rf ⟨by decide, by decide⟩ (by omega) (fun n hn => by omega) rfl)
/-! StrikeAwakeModel.leastProof(II)I  -/
abbrev uq_277 (r0 : Nat) (a1 : Int) (a2 : Int) (pp : Nat) (e : xD) (d : xD) (T : wq_T) (H : wq_H) : Option Value → wq_T → wq_H → Prop := fun r T' H' => T = T' ∧ WT T H' ∧ wfr [(51, 999)] T H H' ∧ ∃ z : Int, some (vI z) = r ∧ ((-1) ≤ z ∧ z ≤ 16777215) ∧ (((XLP (e 13) (XPV e d (xlots d).toNat) a2 z)))
set_option maxHeartbeats 4000000 in
theorem u_277 {kt : Nat → Option mc_E} {T : wq_T} {H : wq_H} {r0 : Nat} {a1 : Int} {a2 : Int} {pp : Nat} {e : xD} {d : xD} (hW : WT T H) (g0 : T.2.2.2 r0 = some 42) (i1 : 0 ≤ a1 ∧ a1 ≤ 16777215) (i2 : 0 ≤ a2 ∧ a2 ≤ 3) (qpp : H r0 3 = (pp : Int)) (gpp : T.2.2.2 pp = some 54) (p0 : a1 = xob (fun h => decide (e 13 h > 0)) 24) (p1 : XW d) (p2 : ∀ h : Nat, d 0 0 ≤ (h : Int) → h < 24 → e 13 h = 0) (p3 : XN d) (p4 : ∀ h : Nat, h < 24 → 0 ≤ e 13 h ∧ e 13 h ≤ 100) (p5 : 0 < xlots d) (p6 : xlots d ≤ 20000) (hRB_r0 : RB T H r0 e d) : wpc kt 6 277 [.ref r0, vI a1, vI a2] T H (uq_277 r0 a1 a2 pp e d T H) := by
  refine wp_enter e277 (Nat.le_of_ble_eq_true rfl) rfl ?_
  have f0 : wfr [(51, 999)] T H H := wfr.rf
  show wp _ _ 277 0 [(0, .ref r0), (1, vI a1), (2, vI a2)] [] _ H _
  have _xw := (by assumption : XW d)
  have _xc := _xw.2.1
  unfold XC at _xc
  have _n3 : H r0 3 ≠ -1 := by omega
  have _k := RP_k (RB_at hRB_r0 qpp)
  have _lm := RB_lm hRB_r0
  have _x0 : 0 ≤ xlots d := (xpr_b _xw.1 _ _).1
  refine wp_of e277 c277_0 (rw_iload_n (pc' := 1) (z := a2) rfl rfl ?_)
  refine wp_of e277 c277_1 (rw_if_ne (p1 := 18) (p2 := 4) (by decide) rfl ⟨Int.le_trans (by decide) i2.1, Int.le_trans i2.2 (by decide)⟩ (fun c21852 => ?_) (fun c21852 => ?_))
  · refine wp_of e277 c277_18 (rw_iload_n (pc' := 19) (z := a2) rfl rfl ?_)
    refine wp_of e277 c277_19 (rw_iconst (pc' := 20) rfl ?_)
    refine wp_of e277 c277_20 (rw_isub (pc' := 21) rfl ?_)
    refine wp_of e277 c277_21 (rw_istore_n (pc' := 22) (z := a2 - 1) (L' := [(3, vI (a2 - 1)), (0, .ref r0), (1, vI a1), (2, vI a2)]) rfl rfl rfl ?_)
    have lp39140 : ∀ (n39141 : Nat) (v39143 : Int) (H39144 : wq_H), WT T H39144 → wfr [(51, 999)] T H H39144 → (0 ≤ v39143 ∧ v39143 ≤ 24) → (1 ≤ a2) → (PA (e 13) (XPV e d (xlots d).toNat) a2 v39143) → (24 - v39143).toNat = n39141 → wp kt 5 277 22 [(3, vI v39143), (0, .ref r0), (1, vI a1), (2, vI a2)] [] T H39144 (uq_277 r0 a1 a2 pp e d T H) := by
      intro n39141
      induction n39141 using Nat.strongRecOn with
      | _ n39141 ih39142 =>
        intro v39143 H39144 w39145 f39146 b39147 x39149 x39150 m39148
        have f39151 := f0.tr f39146 rfl
        refine wp_of e277 c277_22 (rw_iload_n (pc' := 23) (z := v39143) rfl rfl ?_)
        refine wp_of e277 c277_23 (rw_bipush (pc' := 25) (z := 24) rfl (by decide) ?_)
        refine wp_of e277 c277_25 (rw_icmp_ge (p1 := 191) (p2 := 28) (by decide) rfl ⟨Int.le_trans (by decide) b39147.1, Int.le_trans b39147.2 (by decide)⟩ ⟨by decide, by decide⟩ (fun c39152 => ?_) (fun c39152 => ?_))
        · have _z : XLP (e 13) (XPV e d (xlots d).toNat) a2 (-1) := XLP_e (by assumption : PA (e 13) (XPV e d (xlots d).toNat) a2 v39143) (by omega) ⟨by omega, by omega⟩
          refine wp_of e277 c277_191 (rw_iconst (pc' := 192) rfl ?_)
          exact wp_ireturn e277 c277_192 rfl ⟨rfl, w39145, f39151, -1, rfl, ⟨by decide, by decide⟩, (_z)⟩
        · refine wp_of e277 c277_28 (rw_iload_n (pc' := 29) (z := a1) rfl rfl ?_)
          refine wp_of e277 c277_29 (rw_iload_n (pc' := 30) (z := v39143) rfl rfl ?_)
          refine wp_of e277 c277_30 (xc_S (pc' := 33) (as := [vI a1, vI v39143]) (st := []) (lm_9_346) rfl rfl (Nat.le_of_ble_eq_true rfl) rfl (by decide) (u_205  w39145 ⟨Int.le_trans (by decide) i1.1, Int.le_trans i1.2 (by decide)⟩ ⟨Int.le_trans (by decide) b39147.1, Int.le_trans b39147.2 (by decide)⟩) (fun R39153 T39154 H39155 p39156 => ?_))
          obtain ⟨e39157, e39159, z39160, e39158, b39161, p39162⟩ := p39156
          subst e39157
          subst e39158
          subst e39159
          rcases p39162 with ⟨a39163, a39164⟩ | ⟨a39165, a39166⟩
          · show wp _ _ 277 33 [(3, vI v39143), (0, .ref r0), (1, vI a1), (2, vI a2)] [vI z39160] _ H39144 _
            have _hv := hb_and (b := a1) (h := (v39143).toNat) (by omega) (by omega)
            rw [Int.toNat_of_nonneg (by omega : 0 ≤ v39143)] at _hv
            have _hc := @hb_b a1 (v39143).toNat
            have _hv3 := hb_str (f := e 13) (h := (v39143).toNat) p0 (by omega)
            refine wp_of e277 c277_33 (rw_if_ne (p1 := 39) (p2 := 36) (by decide) rfl ⟨Int.le_trans (by decide) b39161.1, Int.le_trans b39161.2 (by decide)⟩ (fun c39167 => ?_) (fun c39167 => ?_))
            · refine wp_of e277 c277_39 (rw_iload_n (pc' := 40) (z := a2) rfl rfl ?_)
              refine wp_of e277 c277_40 (rw_iconst (pc' := 41) rfl ?_)
              refine wp_of e277 c277_41 (rw_icmp_ne (p1 := 58) (p2 := 44) (by decide) rfl ⟨Int.le_trans (by decide) i2.1, Int.le_trans i2.2 (by decide)⟩ ⟨by decide, by decide⟩ (fun c39168 => ?_) (fun c39168 => ?_))
              · have _n1 : a2 = 1 → ¬ (XPV e d (xlots d).toNat) (Y1 (v39143).toNat) := fun q => by omega
                refine wp_of e277 c277_58 (rw_iload_n (pc' := 59) (z := a2) rfl rfl ?_)
                refine wp_of e277 c277_59 (rw_iconst (pc' := 60) rfl ?_)
                refine wp_of e277 c277_60 (rw_isub (pc' := 61) rfl ?_)
                refine wp_of e277 c277_61 (rw_istore (pc' := 63) (z := a2 - 2) (L' := [(4, vI (a2 - 2)), (3, vI v39143), (0, .ref r0), (1, vI a1), (2, vI a2)]) rfl rfl rfl ?_)
                have lp42261 : ∀ (n42262 : Nat) (v42264 : Int) (H42265 : wq_H), WT T H42265 → wfr [(51, 999)] T H39144 H42265 → (0 ≤ v42264 ∧ v42264 ≤ 23) → (a2 - 2 ≤ v42264) → (PB (e 13) (XPV e d (xlots d).toNat) a2 v39143 v42264) → (23 - v42264).toNat = n42262 → wp kt 5 277 63 [(4, vI v42264), (3, vI v39143), (0, .ref r0), (1, vI a1), (2, vI a2)] [] T H42265 (uq_277 r0 a1 a2 pp e d T H) := by
                  intro n42262
                  induction n42262 using Nat.strongRecOn with
                  | _ n42262 ih42263 =>
                    intro v42264 H42265 w42266 f42267 b42268 x42270 x42271 m42269
                    have f42272 := f39151.tr f42267 rfl
                    have f42273 := f39146.tr f42267 rfl
                    refine wp_of e277 c277_63 (rw_iload (pc' := 65) (z := v42264) rfl rfl ?_)
                    refine wp_of e277 c277_65 (rw_iload_n (pc' := 66) (z := v39143) rfl rfl ?_)
                    refine wp_of e277 c277_66 (rw_icmp_ge (p1 := 185) (p2 := 69) (by decide) rfl ⟨Int.le_trans (by decide) b42268.1, Int.le_trans b42268.2 (by decide)⟩ ⟨Int.le_trans (by decide) b39147.1, Int.le_trans b39147.2 (by decide)⟩ (fun c42274 => ?_) (fun c42274 => ?_))
                    · have _qa : PA (e 13) (XPV e d (xlots d).toNat) a2 (v39143 + 1) := PA_n (b := v42264) (by omega) (by assumption : PA (e 13) (XPV e d (xlots d).toNat) a2 v39143) _n1 (fun q => ⟨by assumption, by omega⟩)
                      refine wp_of e277 c277_185 (rw_iinc (pc' := 188) (z := v39143) (L' := [(3, vI (v39143 + 1)), (4, vI v42264), (0, .ref r0), (1, vI a1), (2, vI a2)]) rfl rfl rfl rfl ?_)
                      refine wp_of e277 c277_188 (rw_goto (p1 := 22) (by decide) ?_)
                      exact wp_lc (ks := [3, 4, 0, 1, 2]) (wl_c rfl (wl_c rfl (wl_c rfl (wl_c rfl wl_n)))) rfl (by decide) (ih39142 _ (by omega) (v39143 + 1) H42265 w42266 f42273 ⟨by omega, by omega⟩ (by omega) (_qa) rfl)
                    · refine wp_of e277 c277_69 (rw_iload_n (pc' := 70) (z := a2) rfl rfl ?_)
                      refine wp_of e277 c277_70 (rw_iconst (pc' := 71) rfl ?_)
                      refine wp_of e277 c277_71 (rw_icmp_le (p1 := 185) (p2 := 74) (by decide) rfl ⟨Int.le_trans (by decide) i2.1, Int.le_trans i2.2 (by decide)⟩ ⟨by decide, by decide⟩ (fun c42275 => ?_) (fun c42275 => ?_))
                      · exfalso
                        omega
                      · refine wp_of e277 c277_74 (rw_iload_n (pc' := 75) (z := a1) rfl rfl ?_)
                        refine wp_of e277 c277_75 (rw_iload (pc' := 77) (z := v42264) rfl rfl ?_)
                        refine wp_of e277 c277_77 (xc_S (pc' := 80) (as := [vI a1, vI v42264]) (st := []) (lm_9_346) rfl rfl (Nat.le_of_ble_eq_true rfl) rfl (by decide) (u_205  w42266 ⟨Int.le_trans (by decide) i1.1, Int.le_trans i1.2 (by decide)⟩ ⟨Int.le_trans (by decide) b42268.1, Int.le_trans b42268.2 (by decide)⟩) (fun R42276 T42277 H42278 p42279 => ?_))
                        obtain ⟨e42280, e42282, z42283, e42281, b42284, p42285⟩ := p42279
                        subst e42280
                        subst e42281
                        subst e42282
                        rcases p42285 with ⟨a42286, a42287⟩ | ⟨a42288, a42289⟩
                        · show wp _ _ 277 80 [(4, vI v42264), (3, vI v39143), (0, .ref r0), (1, vI a1), (2, vI a2)] [vI z42283] _ H42265 _
                          have _hv := hb_and (b := a1) (h := (v42264).toNat) (by omega) (by omega)
                          rw [Int.toNat_of_nonneg (by omega : 0 ≤ v42264)] at _hv
                          have _hc := @hb_b a1 (v42264).toNat
                          have _hv4 := hb_str (f := e 13) (h := (v42264).toNat) p0 (by omega)
                          refine wp_of e277 c277_80 (rw_if_ne (p1 := 86) (p2 := 83) (by decide) rfl ⟨Int.le_trans (by decide) b42284.1, Int.le_trans b42284.2 (by decide)⟩ (fun c42290 => ?_) (fun c42290 => ?_))
                          · refine wp_of e277 c277_86 (rw_iload_n (pc' := 87) (z := a2) rfl rfl ?_)
                            refine wp_of e277 c277_87 (rw_iconst (pc' := 88) rfl ?_)
                            refine wp_of e277 c277_88 (rw_icmp_ne (p1 := 115) (p2 := 91) (by decide) rfl ⟨Int.le_trans (by decide) i2.1, Int.le_trans i2.2 (by decide)⟩ ⟨by decide, by decide⟩ (fun c42291 => ?_) (fun c42291 => ?_))
                            · have _n2 : a2 = 2 → ¬ (XPV e d (xlots d).toNat) (Y2 (v39143).toNat (v42264).toNat) := fun q => by omega
                              refine wp_of e277 c277_115 (rw_iconst (pc' := 116) rfl ?_)
                              refine wp_of e277 c277_116 (rw_istore (pc' := 118) (z := 0) (L' := [(5, vI 0), (4, vI v42264), (3, vI v39143), (0, .ref r0), (1, vI a1), (2, vI a2)]) rfl rfl rfl ?_)
                              have lp42724 : ∀ (n42725 : Nat) (v42727 : Int) (H42728 : wq_H), WT T H42728 → wfr [(51, 999)] T H42265 H42728 → (0 ≤ v42727 ∧ v42727 ≤ 22) → (PC (e 13) (XPV e d (xlots d).toNat) v39143 v42264 v42727) → (22 - v42727).toNat = n42725 → wp kt 5 277 118 [(5, vI v42727), (4, vI v42264), (3, vI v39143), (0, .ref r0), (1, vI a1), (2, vI a2)] [] T H42728 (uq_277 r0 a1 a2 pp e d T H) := by
                                intro n42725
                                induction n42725 using Nat.strongRecOn with
                                | _ n42725 ih42726 =>
                                  intro v42727 H42728 w42729 f42730 b42731 x42733 m42732
                                  have f42734 := f42272.tr f42730 rfl
                                  have f42735 := f42273.tr f42730 rfl
                                  have f42736 := f42267.tr f42730 rfl
                                  refine wp_of e277 c277_118 (rw_iload (pc' := 120) (z := v42727) rfl rfl ?_)
                                  refine wp_of e277 c277_120 (rw_iload (pc' := 122) (z := v42264) rfl rfl ?_)
                                  refine wp_of e277 c277_122 (rw_icmp_ge (p1 := 179) (p2 := 125) (by decide) rfl ⟨Int.le_trans (by decide) b42731.1, Int.le_trans b42731.2 (by decide)⟩ ⟨Int.le_trans (by decide) b42268.1, Int.le_trans b42268.2 (by decide)⟩ (fun c42737 => ?_) (fun c42737 => ?_))
                                  · have _qb : PB (e 13) (XPV e d (xlots d).toNat) a2 v39143 (v42264 + 1) := PB_n (c := v42727) (by omega) (by assumption : PB (e 13) (XPV e d (xlots d).toNat) a2 v39143 v42264) _n2 (fun q => ⟨by assumption, by omega⟩)
                                    refine wp_of e277 c277_179 (rw_iinc (pc' := 182) (z := v42264) (L' := [(4, vI (v42264 + 1)), (5, vI v42727), (3, vI v39143), (0, .ref r0), (1, vI a1), (2, vI a2)]) rfl rfl rfl rfl ?_)
                                    refine wp_of e277 c277_182 (rw_goto (p1 := 63) (by decide) ?_)
                                    exact wp_lc (ks := [4, 5, 3, 0, 1, 2]) (wl_c rfl (wl_c rfl (wl_c rfl (wl_c rfl (wl_c rfl wl_n))))) rfl (by decide) (ih42263 _ (by omega) (v42264 + 1) H42728 w42729 f42736 ⟨by omega, by omega⟩ (by omega) (_qb) rfl)
                                  · refine wp_of e277 c277_125 (rw_iload_n (pc' := 126) (z := a2) rfl rfl ?_)
                                    refine wp_of e277 c277_126 (rw_iconst (pc' := 127) rfl ?_)
                                    refine wp_of e277 c277_127 (rw_icmp_le (p1 := 179) (p2 := 130) (by decide) rfl ⟨Int.le_trans (by decide) i2.1, Int.le_trans i2.2 (by decide)⟩ ⟨by decide, by decide⟩ (fun c42738 => ?_) (fun c42738 => ?_))
                                    · exfalso
                                      omega
                                    · refine wp_of e277 c277_130 (rw_iload_n (pc' := 131) (z := a1) rfl rfl ?_)
                                      refine wp_of e277 c277_131 (rw_iload (pc' := 133) (z := v42727) rfl rfl ?_)
                                      refine wp_of e277 c277_133 (xc_S (pc' := 136) (as := [vI a1, vI v42727]) (st := []) (lm_9_346) rfl rfl (Nat.le_of_ble_eq_true rfl) rfl (by decide) (u_205  w42729 ⟨Int.le_trans (by decide) i1.1, Int.le_trans i1.2 (by decide)⟩ ⟨Int.le_trans (by decide) b42731.1, Int.le_trans b42731.2 (by decide)⟩) (fun R42739 T42740 H42741 p42742 => ?_))
                                      obtain ⟨e42743, e42745, z42746, e42744, b42747, p42748⟩ := p42742
                                      subst e42743
                                      subst e42744
                                      subst e42745
                                      rcases p42748 with ⟨a42749, a42750⟩ | ⟨a42751, a42752⟩
                                      · show wp _ _ 277 136 [(5, vI v42727), (4, vI v42264), (3, vI v39143), (0, .ref r0), (1, vI a1), (2, vI a2)] [vI z42746] _ H42728 _
                                        have _hv := hb_and (b := a1) (h := (v42727).toNat) (by omega) (by omega)
                                        rw [Int.toNat_of_nonneg (by omega : 0 ≤ v42727)] at _hv
                                        have _hc := @hb_b a1 (v42727).toNat
                                        have _hv5 := hb_str (f := e 13) (h := (v42727).toNat) p0 (by omega)
                                        refine wp_of e277 c277_136 (rw_if_eq (p1 := 173) (p2 := 139) (by decide) rfl ⟨Int.le_trans (by decide) b42747.1, Int.le_trans b42747.2 (by decide)⟩ (fun c42753 => ?_) (fun c42753 => ?_))
                                        · exfalso
                                          omega
                                        · refine wp_of e277 c277_139 (rw_aload_n (pc' := 140) (v := .ref r0) rfl rfl rfl ?_)
                                          refine wp_of e277 c277_140 (rw_iconst (pc' := 141) rfl ?_)
                                          refine wp_of e277 c277_141 (rw_iload_n (pc' := 142) (z := v39143) rfl rfl ?_)
                                          refine wp_of e277 c277_142 (rw_ishl (pc' := 143) rfl ?_)
                                          obtain ⟨v42754, e42755⟩ : ∃ x : Int, x = wq_shl 1 v39143 := ⟨_, rfl⟩
                                          rw [← e42755]
                                          have b42756 : 1 ≤ v42754 ∧ v42754 ≤ 8388608 := by
                                            rw [e42755]
                                            exact wq_shl1_24 ⟨by omega, by omega⟩
                                          refine wp_of e277 c277_143 (rw_iconst (pc' := 144) rfl ?_)
                                          refine wp_of e277 c277_144 (rw_iload (pc' := 146) (z := v42264) rfl rfl ?_)
                                          refine wp_of e277 c277_146 (rw_ishl (pc' := 147) rfl ?_)
                                          obtain ⟨v42757, e42758⟩ : ∃ x : Int, x = wq_shl 1 v42264 := ⟨_, rfl⟩
                                          rw [← e42758]
                                          have b42759 : 1 ≤ v42757 ∧ v42757 ≤ 8388608 := by
                                            rw [e42758]
                                            exact wq_shl1_24 ⟨by omega, by omega⟩
                                          refine wp_of e277 c277_147 (rw_ior (pc' := 148) rfl ?_)
                                          obtain ⟨v42760, e42761⟩ : ∃ x : Int, x = wq_or v42754 v42757 := ⟨_, rfl⟩
                                          rw [← e42761]
                                          have b42762 : 0 ≤ v42760 ∧ v42760 ≤ 16777215 := by
                                            rw [e42761]
                                            exact wq_or_24 ⟨by omega, by omega⟩ ⟨by omega, by omega⟩
                                          refine wp_of e277 c277_148 (rw_iconst (pc' := 149) rfl ?_)
                                          refine wp_of e277 c277_149 (rw_iload (pc' := 151) (z := v42727) rfl rfl ?_)
                                          refine wp_of e277 c277_151 (rw_ishl (pc' := 152) rfl ?_)
                                          obtain ⟨v42763, e42764⟩ : ∃ x : Int, x = wq_shl 1 v42727 := ⟨_, rfl⟩
                                          rw [← e42764]
                                          have b42765 : 1 ≤ v42763 ∧ v42763 ≤ 8388608 := by
                                            rw [e42764]
                                            exact wq_shl1_24 ⟨by omega, by omega⟩
                                          refine wp_of e277 c277_152 (rw_ior (pc' := 153) rfl ?_)
                                          obtain ⟨v42766, e42767⟩ : ∃ x : Int, x = wq_or v42760 v42763 := ⟨_, rfl⟩
                                          rw [← e42767]
                                          have b42768 : 0 ≤ v42766 ∧ v42766 ≤ 16777215 := by
                                            rw [e42767]
                                            exact wq_or_24 ⟨by omega, by omega⟩ ⟨by omega, by omega⟩
                                          have _yc : v42766 = Y3 (v39143).toNat (v42264).toNat (v42727).toNat := by
                                            show _ = wq_or (wq_or (wq_shl 1 (((v39143).toNat : Nat) : Int)) (wq_shl 1 (((v42264).toNat : Nat) : Int))) (wq_shl 1 (((v42727).toNat : Nat) : Int))
                                            rw [show (((v39143).toNat : Nat) : Int) = v39143 by omega, show (((v42264).toNat : Nat) : Int) = v42264 by omega, show (((v42727).toNat : Nat) : Int) = v42727 by omega, e42767, e42761, e42755, e42758, e42764]
                                          have k42769 : H42728 r0 3 = H r0 3 := ((f42730 r0 3 _ g0 rfl).trans ((f42267 r0 3 _ g0 rfl).trans (f39146 r0 3 _ g0 rfl)))
                                          have q42770 : H42728 r0 3 = (pp : Int) := k42769.trans qpp
                                          have k42771 : wLM H42728 r0 = wLM H r0 := ((wLM_fr w42266 g0 f42730 rfl).trans ((wLM_fr w39145 g0 f42267 rfl).trans (wLM_fr hW g0 f39146 rfl)))
                                          have h42772 : RB T H42728 r0 e d := (RB_fr w42266 g0 f42730 rfl (RB_fr w39145 g0 f42267 rfl (RB_fr hW g0 f39146 rfl hRB_r0)))
                                          refine wp_of e277 c277_153 (xc_V (pc' := 156) (r := r0) (as := [vI v42766]) (st := []) (lm_9_484) rfl rfl (Nat.le_of_ble_eq_true rfl) w42729 g0 sh_42 (by decide) rfl (by decide) (u_278 (e := e) (d := d) w42729 g0 ⟨b42768.1, b42768.2⟩ q42770 gpp (by assumption) (by assumption) (by assumption) (by assumption) (by omega) (by omega) h42772) (fun R42773 T42774 H42775 p42776 => ?_))
                                          obtain ⟨e42777, w42779, f42780, z42781, e42778, b42782, p42783⟩ := p42776
                                          subst e42777
                                          subst e42778
                                          rcases p42783 with ⟨a42784, a42785⟩ | ⟨a42786, a42787⟩
                                          · have f42788 := f42734.tr f42780 rfl
                                            have f42789 := f42735.tr f42780 rfl
                                            have f42790 := f42736.tr f42780 rfl
                                            have f42791 := f42730.tr f42780 rfl
                                            show wp _ _ 277 156 [(5, vI v42727), (4, vI v42264), (3, vI v39143), (0, .ref r0), (1, vI a1), (2, vI a2)] [vI z42781] _ H42775 _
                                            refine wp_of e277 c277_156 (rw_if_eq (p1 := 173) (p2 := 159) (by decide) rfl ⟨Int.le_trans (by decide) b42782.1, Int.le_trans b42782.2 (by decide)⟩ (fun c42792 => ?_) (fun c42792 => ?_))
                                            · exfalso
                                              omega
                                            · refine wp_of e277 c277_159 (rw_iconst (pc' := 160) rfl ?_)
                                              refine wp_of e277 c277_160 (rw_iload_n (pc' := 161) (z := v39143) rfl rfl ?_)
                                              refine wp_of e277 c277_161 (rw_ishl (pc' := 162) rfl ?_)
                                              obtain ⟨v42793, e42794⟩ : ∃ x : Int, x = wq_shl 1 v39143 := ⟨_, rfl⟩
                                              rw [← e42794]
                                              have b42795 : 1 ≤ v42793 ∧ v42793 ≤ 8388608 := by
                                                rw [e42794]
                                                exact wq_shl1_24 ⟨by omega, by omega⟩
                                              refine wp_of e277 c277_162 (rw_iconst (pc' := 163) rfl ?_)
                                              refine wp_of e277 c277_163 (rw_iload (pc' := 165) (z := v42264) rfl rfl ?_)
                                              refine wp_of e277 c277_165 (rw_ishl (pc' := 166) rfl ?_)
                                              obtain ⟨v42796, e42797⟩ : ∃ x : Int, x = wq_shl 1 v42264 := ⟨_, rfl⟩
                                              rw [← e42797]
                                              have b42798 : 1 ≤ v42796 ∧ v42796 ≤ 8388608 := by
                                                rw [e42797]
                                                exact wq_shl1_24 ⟨by omega, by omega⟩
                                              refine wp_of e277 c277_166 (rw_ior (pc' := 167) rfl ?_)
                                              obtain ⟨v42799, e42800⟩ : ∃ x : Int, x = wq_or v42793 v42796 := ⟨_, rfl⟩
                                              rw [← e42800]
                                              have b42801 : 0 ≤ v42799 ∧ v42799 ≤ 16777215 := by
                                                rw [e42800]
                                                exact wq_or_24 ⟨by omega, by omega⟩ ⟨by omega, by omega⟩
                                              refine wp_of e277 c277_167 (rw_iconst (pc' := 168) rfl ?_)
                                              refine wp_of e277 c277_168 (rw_iload (pc' := 170) (z := v42727) rfl rfl ?_)
                                              refine wp_of e277 c277_170 (rw_ishl (pc' := 171) rfl ?_)
                                              obtain ⟨v42802, e42803⟩ : ∃ x : Int, x = wq_shl 1 v42727 := ⟨_, rfl⟩
                                              rw [← e42803]
                                              have b42804 : 1 ≤ v42802 ∧ v42802 ≤ 8388608 := by
                                                rw [e42803]
                                                exact wq_shl1_24 ⟨by omega, by omega⟩
                                              refine wp_of e277 c277_171 (rw_ior (pc' := 172) rfl ?_)
                                              obtain ⟨v42805, e42806⟩ : ∃ x : Int, x = wq_or v42799 v42802 := ⟨_, rfl⟩
                                              rw [← e42806]
                                              have b42807 : 0 ≤ v42805 ∧ v42805 ≤ 16777215 := by
                                                rw [e42806]
                                                exact wq_or_24 ⟨by omega, by omega⟩ ⟨by omega, by omega⟩
                                              have _kk : (XPV e d (xlots d).toNat) (Y3 (v39143).toNat (v42264).toNat (v42727).toNat) := by rw [← _yc]; assumption
                                              have _yc : v42805 = Y3 (v39143).toNat (v42264).toNat (v42727).toNat := by
                                                show _ = wq_or (wq_or (wq_shl 1 (((v39143).toNat : Nat) : Int)) (wq_shl 1 (((v42264).toNat : Nat) : Int))) (wq_shl 1 (((v42727).toNat : Nat) : Int))
                                                rw [show (((v39143).toNat : Nat) : Int) = v39143 by omega, show (((v42264).toNat : Nat) : Int) = v42264 by omega, show (((v42727).toNat : Nat) : Int) = v42727 by omega, e42806, e42800, e42794, e42797, e42803]
                                              have _z : XLP (e 13) (XPV e d (xlots d).toNat) a2 v42805 := by
                                                rw [_yc]
                                                exact XLP_3 (by assumption : PA (e 13) (XPV e d (xlots d).toNat) a2 v39143) (by assumption : PB (e 13) (XPV e d (xlots d).toNat) a2 v39143 v42264) (by assumption : PC (e 13) (XPV e d (xlots d).toNat) v39143 v42264 v42727) (by omega) ⟨by omega, by omega, by omega, by omega⟩ (by omega) (by omega) (by omega) _kk
                                              exact wp_ireturn e277 c277_172 rfl ⟨rfl, w42779, f42788, v42805, rfl, ⟨Int.le_trans (by decide) b42807.1, b42807.2⟩, (_z)⟩
                                          · have f42808 := f42734.tr f42780 rfl
                                            have f42809 := f42735.tr f42780 rfl
                                            have f42810 := f42736.tr f42780 rfl
                                            have f42811 := f42730.tr f42780 rfl
                                            show wp _ _ 277 156 [(5, vI v42727), (4, vI v42264), (3, vI v39143), (0, .ref r0), (1, vI a1), (2, vI a2)] [vI z42781] _ H42775 _
                                            refine wp_of e277 c277_156 (rw_if_eq (p1 := 173) (p2 := 159) (by decide) rfl ⟨Int.le_trans (by decide) b42782.1, Int.le_trans b42782.2 (by decide)⟩ (fun c42812 => ?_) (fun c42812 => ?_))
                                            · have _qc : PC (e 13) (XPV e d (xlots d).toNat) v39143 v42264 (v42727 + 1) := PC_n (by omega) (by assumption : PC (e 13) (XPV e d (xlots d).toNat) v39143 v42264 v42727) (fun _ => by rw [← _yc]; assumption)
                                              refine wp_of e277 c277_173 (rw_iinc (pc' := 176) (z := v42727) (L' := [(5, vI (v42727 + 1)), (4, vI v42264), (3, vI v39143), (0, .ref r0), (1, vI a1), (2, vI a2)]) rfl rfl rfl rfl ?_)
                                              refine wp_of e277 c277_176 (rw_goto (p1 := 118) (by decide) ?_)
                                              exact wp_lc (ks := [5, 4, 3, 0, 1, 2]) (wl_c rfl (wl_c rfl (wl_c rfl (wl_c rfl (wl_c rfl (wl_c rfl wl_n)))))) rfl (by decide) (ih42726 _ (by omega) (v42727 + 1) H42775 w42779 f42811 ⟨by omega, by omega⟩ (_qc) rfl)
                                            · exfalso
                                              omega
                                      · show wp _ _ 277 136 [(5, vI v42727), (4, vI v42264), (3, vI v39143), (0, .ref r0), (1, vI a1), (2, vI a2)] [vI z42746] _ H42728 _
                                        have _hv := hb_and (b := a1) (h := (v42727).toNat) (by omega) (by omega)
                                        rw [Int.toNat_of_nonneg (by omega : 0 ≤ v42727)] at _hv
                                        have _hc := @hb_b a1 (v42727).toNat
                                        have _hv5 := hb_str (f := e 13) (h := (v42727).toNat) p0 (by omega)
                                        refine wp_of e277 c277_136 (rw_if_eq (p1 := 173) (p2 := 139) (by decide) rfl ⟨Int.le_trans (by decide) b42747.1, Int.le_trans b42747.2 (by decide)⟩ (fun c42813 => ?_) (fun c42813 => ?_))
                                        · have _qc : PC (e 13) (XPV e d (xlots d).toNat) v39143 v42264 (v42727 + 1) := PC_n (by omega) (by assumption : PC (e 13) (XPV e d (xlots d).toNat) v39143 v42264 v42727) (fun q => by omega)
                                          refine wp_of e277 c277_173 (rw_iinc (pc' := 176) (z := v42727) (L' := [(5, vI (v42727 + 1)), (4, vI v42264), (3, vI v39143), (0, .ref r0), (1, vI a1), (2, vI a2)]) rfl rfl rfl rfl ?_)
                                          refine wp_of e277 c277_176 (rw_goto (p1 := 118) (by decide) ?_)
                                          exact wp_lc (ks := [5, 4, 3, 0, 1, 2]) (wl_c rfl (wl_c rfl (wl_c rfl (wl_c rfl (wl_c rfl (wl_c rfl wl_n)))))) rfl (by decide) (ih42726 _ (by omega) (v42727 + 1) H42728 w42729 f42730 ⟨by omega, by omega⟩ (_qc) rfl)
                                        · exfalso
                                          omega
                              exact wp_lc (ks := [5, 4, 3, 0, 1, 2]) (wl_c rfl (wl_c rfl (wl_c rfl (wl_c rfl (wl_c rfl (wl_c rfl wl_n)))))) rfl (by decide) (lp42724 _ 0 H42265 w42266 wfr.rf ⟨by decide, by decide⟩ (PC_0) rfl)
                            · refine wp_of e277 c277_91 (rw_aload_n (pc' := 92) (v := .ref r0) rfl rfl rfl ?_)
                              refine wp_of e277 c277_92 (rw_iconst (pc' := 93) rfl ?_)
                              refine wp_of e277 c277_93 (rw_iload_n (pc' := 94) (z := v39143) rfl rfl ?_)
                              refine wp_of e277 c277_94 (rw_ishl (pc' := 95) rfl ?_)
                              obtain ⟨v42814, e42815⟩ : ∃ x : Int, x = wq_shl 1 v39143 := ⟨_, rfl⟩
                              rw [← e42815]
                              have b42816 : 1 ≤ v42814 ∧ v42814 ≤ 8388608 := by
                                rw [e42815]
                                exact wq_shl1_24 ⟨by omega, by omega⟩
                              refine wp_of e277 c277_95 (rw_iconst (pc' := 96) rfl ?_)
                              refine wp_of e277 c277_96 (rw_iload (pc' := 98) (z := v42264) rfl rfl ?_)
                              refine wp_of e277 c277_98 (rw_ishl (pc' := 99) rfl ?_)
                              obtain ⟨v42817, e42818⟩ : ∃ x : Int, x = wq_shl 1 v42264 := ⟨_, rfl⟩
                              rw [← e42818]
                              have b42819 : 1 ≤ v42817 ∧ v42817 ≤ 8388608 := by
                                rw [e42818]
                                exact wq_shl1_24 ⟨by omega, by omega⟩
                              refine wp_of e277 c277_99 (rw_ior (pc' := 100) rfl ?_)
                              obtain ⟨v42820, e42821⟩ : ∃ x : Int, x = wq_or v42814 v42817 := ⟨_, rfl⟩
                              rw [← e42821]
                              have b42822 : 0 ≤ v42820 ∧ v42820 ≤ 16777215 := by
                                rw [e42821]
                                exact wq_or_24 ⟨by omega, by omega⟩ ⟨by omega, by omega⟩
                              have _yb : v42820 = Y2 (v39143).toNat (v42264).toNat := by
                                show _ = wq_or (wq_shl 1 (((v39143).toNat : Nat) : Int)) (wq_shl 1 (((v42264).toNat : Nat) : Int))
                                rw [show (((v39143).toNat : Nat) : Int) = v39143 by omega, show (((v42264).toNat : Nat) : Int) = v42264 by omega, e42821, e42815, e42818]
                              have k42823 : H42265 r0 3 = H r0 3 := ((f42267 r0 3 _ g0 rfl).trans (f39146 r0 3 _ g0 rfl))
                              have q42824 : H42265 r0 3 = (pp : Int) := k42823.trans qpp
                              have k42825 : wLM H42265 r0 = wLM H r0 := ((wLM_fr w39145 g0 f42267 rfl).trans (wLM_fr hW g0 f39146 rfl))
                              have h42826 : RB T H42265 r0 e d := (RB_fr w39145 g0 f42267 rfl (RB_fr hW g0 f39146 rfl hRB_r0))
                              refine wp_of e277 c277_100 (xc_V (pc' := 103) (r := r0) (as := [vI v42820]) (st := []) (lm_9_484) rfl rfl (Nat.le_of_ble_eq_true rfl) w42266 g0 sh_42 (by decide) rfl (by decide) (u_278 (e := e) (d := d) w42266 g0 ⟨b42822.1, b42822.2⟩ q42824 gpp (by assumption) (by assumption) (by assumption) (by assumption) (by omega) (by omega) h42826) (fun R42827 T42828 H42829 p42830 => ?_))
                              obtain ⟨e42831, w42833, f42834, z42835, e42832, b42836, p42837⟩ := p42830
                              subst e42831
                              subst e42832
                              rcases p42837 with ⟨a42838, a42839⟩ | ⟨a42840, a42841⟩
                              · have f42842 := f42272.tr f42834 rfl
                                have f42843 := f42273.tr f42834 rfl
                                have f42844 := f42267.tr f42834 rfl
                                show wp _ _ 277 103 [(4, vI v42264), (3, vI v39143), (0, .ref r0), (1, vI a1), (2, vI a2)] [vI z42835] _ H42829 _
                                refine wp_of e277 c277_103 (rw_if_eq (p1 := 115) (p2 := 106) (by decide) rfl ⟨Int.le_trans (by decide) b42836.1, Int.le_trans b42836.2 (by decide)⟩ (fun c42845 => ?_) (fun c42845 => ?_))
                                · exfalso
                                  omega
                                · refine wp_of e277 c277_106 (rw_iconst (pc' := 107) rfl ?_)
                                  refine wp_of e277 c277_107 (rw_iload_n (pc' := 108) (z := v39143) rfl rfl ?_)
                                  refine wp_of e277 c277_108 (rw_ishl (pc' := 109) rfl ?_)
                                  obtain ⟨v42846, e42847⟩ : ∃ x : Int, x = wq_shl 1 v39143 := ⟨_, rfl⟩
                                  rw [← e42847]
                                  have b42848 : 1 ≤ v42846 ∧ v42846 ≤ 8388608 := by
                                    rw [e42847]
                                    exact wq_shl1_24 ⟨by omega, by omega⟩
                                  refine wp_of e277 c277_109 (rw_iconst (pc' := 110) rfl ?_)
                                  refine wp_of e277 c277_110 (rw_iload (pc' := 112) (z := v42264) rfl rfl ?_)
                                  refine wp_of e277 c277_112 (rw_ishl (pc' := 113) rfl ?_)
                                  obtain ⟨v42849, e42850⟩ : ∃ x : Int, x = wq_shl 1 v42264 := ⟨_, rfl⟩
                                  rw [← e42850]
                                  have b42851 : 1 ≤ v42849 ∧ v42849 ≤ 8388608 := by
                                    rw [e42850]
                                    exact wq_shl1_24 ⟨by omega, by omega⟩
                                  refine wp_of e277 c277_113 (rw_ior (pc' := 114) rfl ?_)
                                  obtain ⟨v42852, e42853⟩ : ∃ x : Int, x = wq_or v42846 v42849 := ⟨_, rfl⟩
                                  rw [← e42853]
                                  have b42854 : 0 ≤ v42852 ∧ v42852 ≤ 16777215 := by
                                    rw [e42853]
                                    exact wq_or_24 ⟨by omega, by omega⟩ ⟨by omega, by omega⟩
                                  have _kk : (XPV e d (xlots d).toNat) (Y2 (v39143).toNat (v42264).toNat) := by rw [← _yb]; assumption
                                  have _yb : v42852 = Y2 (v39143).toNat (v42264).toNat := by
                                    show _ = wq_or (wq_shl 1 (((v39143).toNat : Nat) : Int)) (wq_shl 1 (((v42264).toNat : Nat) : Int))
                                    rw [show (((v39143).toNat : Nat) : Int) = v39143 by omega, show (((v42264).toNat : Nat) : Int) = v42264 by omega, e42853, e42847, e42850]
                                  have _z : XLP (e 13) (XPV e d (xlots d).toNat) a2 v42852 := by
                                    rw [_yb]
                                    exact XLP_2 (by assumption : PA (e 13) (XPV e d (xlots d).toNat) a2 v39143) (by assumption : PB (e 13) (XPV e d (xlots d).toNat) a2 v39143 v42264) (by omega) ⟨by omega, by omega, by omega⟩ (by omega) (by omega) _kk
                                  exact wp_ireturn e277 c277_114 rfl ⟨rfl, w42833, f42842, v42852, rfl, ⟨Int.le_trans (by decide) b42854.1, b42854.2⟩, (_z)⟩
                              · have f42855 := f42272.tr f42834 rfl
                                have f42856 := f42273.tr f42834 rfl
                                have f42857 := f42267.tr f42834 rfl
                                show wp _ _ 277 103 [(4, vI v42264), (3, vI v39143), (0, .ref r0), (1, vI a1), (2, vI a2)] [vI z42835] _ H42829 _
                                refine wp_of e277 c277_103 (rw_if_eq (p1 := 115) (p2 := 106) (by decide) rfl ⟨Int.le_trans (by decide) b42836.1, Int.le_trans b42836.2 (by decide)⟩ (fun c42858 => ?_) (fun c42858 => ?_))
                                · have _n2 : a2 = 2 → ¬ (XPV e d (xlots d).toNat) (Y2 (v39143).toNat (v42264).toNat) := fun _ => by rw [← _yb]; assumption
                                  refine wp_of e277 c277_115 (rw_iconst (pc' := 116) rfl ?_)
                                  refine wp_of e277 c277_116 (rw_istore (pc' := 118) (z := 0) (L' := [(5, vI 0), (4, vI v42264), (3, vI v39143), (0, .ref r0), (1, vI a1), (2, vI a2)]) rfl rfl rfl ?_)
                                  have lp42861 : ∀ (n42862 : Nat) (v42864 : Int), (0 ≤ v42864 ∧ v42864 ≤ 0) → (PC (e 13) (XPV e d (xlots d).toNat) v39143 v42264 v42864) → 0 = n42862 → wp kt 5 277 118 [(5, vI v42864), (4, vI v42264), (3, vI v39143), (0, .ref r0), (1, vI a1), (2, vI a2)] [] T H42829 (uq_277 r0 a1 a2 pp e d T H) := by
                                    intro n42862
                                    induction n42862 using Nat.strongRecOn with
                                    | _ n42862 ih42863 =>
                                      intro v42864 b42867 x42869 m42868
                                      refine wp_of e277 c277_118 (rw_iload (pc' := 120) (z := v42864) rfl rfl ?_)
                                      refine wp_of e277 c277_120 (rw_iload (pc' := 122) (z := v42264) rfl rfl ?_)
                                      refine wp_of e277 c277_122 (rw_icmp_ge (p1 := 179) (p2 := 125) (by decide) rfl ⟨Int.le_trans (by decide) b42867.1, Int.le_trans b42867.2 (by decide)⟩ ⟨Int.le_trans (by decide) b42268.1, Int.le_trans b42268.2 (by decide)⟩ (fun c42870 => ?_) (fun c42870 => ?_))
                                      · have _qb : PB (e 13) (XPV e d (xlots d).toNat) a2 v39143 (v42264 + 1) := PB_n (c := v42864) (by omega) (by assumption : PB (e 13) (XPV e d (xlots d).toNat) a2 v39143 v42264) _n2 (fun q => ⟨by assumption, by omega⟩)
                                        refine wp_of e277 c277_179 (rw_iinc (pc' := 182) (z := v42264) (L' := [(4, vI (v42264 + 1)), (5, vI v42864), (3, vI v39143), (0, .ref r0), (1, vI a1), (2, vI a2)]) rfl rfl rfl rfl ?_)
                                        refine wp_of e277 c277_182 (rw_goto (p1 := 63) (by decide) ?_)
                                        exact wp_lc (ks := [4, 5, 3, 0, 1, 2]) (wl_c rfl (wl_c rfl (wl_c rfl (wl_c rfl (wl_c rfl wl_n))))) rfl (by decide) (ih42263 _ (by omega) (v42264 + 1) H42829 w42833 f42857 ⟨by omega, by omega⟩ (by omega) (_qb) rfl)
                                      · refine wp_of e277 c277_125 (rw_iload_n (pc' := 126) (z := a2) rfl rfl ?_)
                                        refine wp_of e277 c277_126 (rw_iconst (pc' := 127) rfl ?_)
                                        refine wp_of e277 c277_127 (rw_icmp_le (p1 := 179) (p2 := 130) (by decide) rfl ⟨Int.le_trans (by decide) i2.1, Int.le_trans i2.2 (by decide)⟩ ⟨by decide, by decide⟩ (fun c42871 => ?_) (fun c42871 => ?_))
                                        · have _qb : PB (e 13) (XPV e d (xlots d).toNat) a2 v39143 (v42264 + 1) := PB_n (c := v42864) (by omega) (by assumption : PB (e 13) (XPV e d (xlots d).toNat) a2 v39143 v42264) _n2 (fun q => ⟨by assumption, by omega⟩)
                                          refine wp_of e277 c277_179 (rw_iinc (pc' := 182) (z := v42264) (L' := [(4, vI (v42264 + 1)), (5, vI v42864), (3, vI v39143), (0, .ref r0), (1, vI a1), (2, vI a2)]) rfl rfl rfl rfl ?_)
                                          refine wp_of e277 c277_182 (rw_goto (p1 := 63) (by decide) ?_)
                                          exact wp_lc (ks := [4, 5, 3, 0, 1, 2]) (wl_c rfl (wl_c rfl (wl_c rfl (wl_c rfl (wl_c rfl wl_n))))) rfl (by decide) (ih42263 _ (by omega) (v42264 + 1) H42829 w42833 f42857 ⟨by omega, by omega⟩ (by omega) (_qb) rfl)
                                        · exfalso
                                          omega
                                  exact wp_lc (ks := [5, 4, 3, 0, 1, 2]) (wl_c rfl (wl_c rfl (wl_c rfl (wl_c rfl (wl_c rfl (wl_c rfl wl_n)))))) rfl (by decide) (lp42861 _ 0 ⟨by decide, by decide⟩ (PC_0) rfl)
                                · exfalso
                                  omega
                          · exfalso
                            omega
                        · show wp _ _ 277 80 [(4, vI v42264), (3, vI v39143), (0, .ref r0), (1, vI a1), (2, vI a2)] [vI z42283] _ H42265 _
                          have _hv := hb_and (b := a1) (h := (v42264).toNat) (by omega) (by omega)
                          rw [Int.toNat_of_nonneg (by omega : 0 ≤ v42264)] at _hv
                          have _hc := @hb_b a1 (v42264).toNat
                          have _hv4 := hb_str (f := e 13) (h := (v42264).toNat) p0 (by omega)
                          refine wp_of e277 c277_80 (rw_if_ne (p1 := 86) (p2 := 83) (by decide) rfl ⟨Int.le_trans (by decide) b42284.1, Int.le_trans b42284.2 (by decide)⟩ (fun c42872 => ?_) (fun c42872 => ?_))
                          · exfalso
                            omega
                          · refine wp_of e277 c277_83 (rw_goto (p1 := 179) (by decide) ?_)
                            have _qb : PB (e 13) (XPV e d (xlots d).toNat) a2 v39143 (v42264 + 1) := PB_s (by omega) (by assumption : PB (e 13) (XPV e d (xlots d).toNat) a2 v39143 v42264) (by omega)
                            refine wp_of e277 c277_179 (rw_iinc (pc' := 182) (z := v42264) (L' := [(4, vI (v42264 + 1)), (3, vI v39143), (0, .ref r0), (1, vI a1), (2, vI a2)]) rfl rfl rfl rfl ?_)
                            refine wp_of e277 c277_182 (rw_goto (p1 := 63) (by decide) ?_)
                            exact wp_lc (ks := [4, 3, 0, 1, 2]) (wl_c rfl (wl_c rfl (wl_c rfl (wl_c rfl (wl_c rfl wl_n))))) rfl (by decide) (ih42263 _ (by omega) (v42264 + 1) H42265 w42266 f42267 ⟨by omega, by omega⟩ (by omega) (_qb) rfl)
                exact wp_lc (ks := [4, 3, 0, 1, 2]) (wl_c rfl (wl_c rfl (wl_c rfl (wl_c rfl (wl_c rfl wl_n))))) rfl (by decide) (lp42261 _ (a2 - 2) H39144 w39145 wfr.rf ⟨by omega, by omega⟩ (by omega) (PB_0 (by omega)) rfl)
              · refine wp_of e277 c277_44 (rw_aload_n (pc' := 45) (v := .ref r0) rfl rfl rfl ?_)
                refine wp_of e277 c277_45 (rw_iconst (pc' := 46) rfl ?_)
                refine wp_of e277 c277_46 (rw_iload_n (pc' := 47) (z := v39143) rfl rfl ?_)
                refine wp_of e277 c277_47 (rw_ishl (pc' := 48) rfl ?_)
                obtain ⟨v42873, e42874⟩ : ∃ x : Int, x = wq_shl 1 v39143 := ⟨_, rfl⟩
                rw [← e42874]
                have b42875 : 1 ≤ v42873 ∧ v42873 ≤ 8388608 := by
                  rw [e42874]
                  exact wq_shl1_24 ⟨by omega, by omega⟩
                have _ya : v42873 = Y1 (v39143).toNat := by
                  show _ = wq_shl 1 (((v39143).toNat : Nat) : Int)
                  rw [show (((v39143).toNat : Nat) : Int) = v39143 by omega, e42874]
                have k42876 : H39144 r0 3 = H r0 3 := (f39146 r0 3 _ g0 rfl)
                have q42877 : H39144 r0 3 = (pp : Int) := k42876.trans qpp
                have k42878 : wLM H39144 r0 = wLM H r0 := (wLM_fr hW g0 f39146 rfl)
                have h42879 : RB T H39144 r0 e d := (RB_fr hW g0 f39146 rfl hRB_r0)
                refine wp_of e277 c277_48 (xc_V (pc' := 51) (r := r0) (as := [vI v42873]) (st := []) (lm_9_484) rfl rfl (Nat.le_of_ble_eq_true rfl) w39145 g0 sh_42 (by decide) rfl (by decide) (u_278 (e := e) (d := d) w39145 g0 ⟨Int.le_trans (by decide) b42875.1, Int.le_trans b42875.2 (by decide)⟩ q42877 gpp (by assumption) (by assumption) (by assumption) (by assumption) (by omega) (by omega) h42879) (fun R42880 T42881 H42882 p42883 => ?_))
                obtain ⟨e42884, w42886, f42887, z42888, e42885, b42889, p42890⟩ := p42883
                subst e42884
                subst e42885
                rcases p42890 with ⟨a42891, a42892⟩ | ⟨a42893, a42894⟩
                · have f42895 := f39151.tr f42887 rfl
                  have f42896 := f39146.tr f42887 rfl
                  show wp _ _ 277 51 [(3, vI v39143), (0, .ref r0), (1, vI a1), (2, vI a2)] [vI z42888] _ H42882 _
                  refine wp_of e277 c277_51 (rw_if_eq (p1 := 58) (p2 := 54) (by decide) rfl ⟨Int.le_trans (by decide) b42889.1, Int.le_trans b42889.2 (by decide)⟩ (fun c42897 => ?_) (fun c42897 => ?_))
                  · exfalso
                    omega
                  · refine wp_of e277 c277_54 (rw_iconst (pc' := 55) rfl ?_)
                    refine wp_of e277 c277_55 (rw_iload_n (pc' := 56) (z := v39143) rfl rfl ?_)
                    refine wp_of e277 c277_56 (rw_ishl (pc' := 57) rfl ?_)
                    obtain ⟨v42898, e42899⟩ : ∃ x : Int, x = wq_shl 1 v39143 := ⟨_, rfl⟩
                    rw [← e42899]
                    have b42900 : 1 ≤ v42898 ∧ v42898 ≤ 8388608 := by
                      rw [e42899]
                      exact wq_shl1_24 ⟨by omega, by omega⟩
                    have _kk : (XPV e d (xlots d).toNat) (Y1 (v39143).toNat) := by rw [← _ya]; assumption
                    have _ya : v42898 = Y1 (v39143).toNat := by
                      show _ = wq_shl 1 (((v39143).toNat : Nat) : Int)
                      rw [show (((v39143).toNat : Nat) : Int) = v39143 by omega, e42899]
                    have _z : XLP (e 13) (XPV e d (xlots d).toNat) a2 v42898 := by
                      rw [_ya]
                      exact XLP_1 (by assumption : PA (e 13) (XPV e d (xlots d).toNat) a2 v39143) (by omega) ⟨by omega, by omega⟩ (by omega) _kk
                    exact wp_ireturn e277 c277_57 rfl ⟨rfl, w42886, f42895, v42898, rfl, ⟨Int.le_trans (by decide) b42900.1, Int.le_trans b42900.2 (by decide)⟩, (_z)⟩
                · have f42901 := f39151.tr f42887 rfl
                  have f42902 := f39146.tr f42887 rfl
                  show wp _ _ 277 51 [(3, vI v39143), (0, .ref r0), (1, vI a1), (2, vI a2)] [vI z42888] _ H42882 _
                  refine wp_of e277 c277_51 (rw_if_eq (p1 := 58) (p2 := 54) (by decide) rfl ⟨Int.le_trans (by decide) b42889.1, Int.le_trans b42889.2 (by decide)⟩ (fun c42903 => ?_) (fun c42903 => ?_))
                  · have _n1 : a2 = 1 → ¬ (XPV e d (xlots d).toNat) (Y1 (v39143).toNat) := fun _ => by rw [← _ya]; assumption
                    refine wp_of e277 c277_58 (rw_iload_n (pc' := 59) (z := a2) rfl rfl ?_)
                    refine wp_of e277 c277_59 (rw_iconst (pc' := 60) rfl ?_)
                    refine wp_of e277 c277_60 (rw_isub (pc' := 61) rfl ?_)
                    refine wp_of e277 c277_61 (rw_istore (pc' := 63) (z := a2 - 2) (L' := [(4, vI (a2 - 2)), (3, vI v39143), (0, .ref r0), (1, vI a1), (2, vI a2)]) rfl rfl rfl ?_)
                    have lp42906 : ∀ (n42907 : Nat) (v42909 : Int), ((-1) ≤ v42909 ∧ v42909 ≤ (-1)) → (a2 - 2 ≤ v42909) → (PB (e 13) (XPV e d (xlots d).toNat) a2 v39143 v42909) → 0 = n42907 → wp kt 5 277 63 [(4, vI v42909), (3, vI v39143), (0, .ref r0), (1, vI a1), (2, vI a2)] [] T H42882 (uq_277 r0 a1 a2 pp e d T H) := by
                      intro n42907
                      induction n42907 using Nat.strongRecOn with
                      | _ n42907 ih42908 =>
                        intro v42909 b42912 x42914 x42915 m42913
                        refine wp_of e277 c277_63 (rw_iload (pc' := 65) (z := v42909) rfl rfl ?_)
                        refine wp_of e277 c277_65 (rw_iload_n (pc' := 66) (z := v39143) rfl rfl ?_)
                        refine wp_of e277 c277_66 (rw_icmp_ge (p1 := 185) (p2 := 69) (by decide) rfl ⟨Int.le_trans (by decide) b42912.1, Int.le_trans b42912.2 (by decide)⟩ ⟨Int.le_trans (by decide) b39147.1, Int.le_trans b39147.2 (by decide)⟩ (fun c42916 => ?_) (fun c42916 => ?_))
                        · exfalso
                          omega
                        · refine wp_of e277 c277_69 (rw_iload_n (pc' := 70) (z := a2) rfl rfl ?_)
                          refine wp_of e277 c277_70 (rw_iconst (pc' := 71) rfl ?_)
                          refine wp_of e277 c277_71 (rw_icmp_le (p1 := 185) (p2 := 74) (by decide) rfl ⟨Int.le_trans (by decide) i2.1, Int.le_trans i2.2 (by decide)⟩ ⟨by decide, by decide⟩ (fun c42917 => ?_) (fun c42917 => ?_))
                          · have _qa : PA (e 13) (XPV e d (xlots d).toNat) a2 (v39143 + 1) := PA_n (b := v42909) (by omega) (by assumption : PA (e 13) (XPV e d (xlots d).toNat) a2 v39143) _n1 (fun q => ⟨by assumption, by omega⟩)
                            refine wp_of e277 c277_185 (rw_iinc (pc' := 188) (z := v39143) (L' := [(3, vI (v39143 + 1)), (4, vI v42909), (0, .ref r0), (1, vI a1), (2, vI a2)]) rfl rfl rfl rfl ?_)
                            refine wp_of e277 c277_188 (rw_goto (p1 := 22) (by decide) ?_)
                            exact wp_lc (ks := [3, 4, 0, 1, 2]) (wl_c rfl (wl_c rfl (wl_c rfl (wl_c rfl wl_n)))) rfl (by decide) (ih39142 _ (by omega) (v39143 + 1) H42882 w42886 f42902 ⟨by omega, by omega⟩ (by omega) (_qa) rfl)
                          · exfalso
                            omega
                    exact wp_lc (ks := [4, 3, 0, 1, 2]) (wl_c rfl (wl_c rfl (wl_c rfl (wl_c rfl (wl_c rfl wl_n))))) rfl (by decide) (lp42906 _ (a2 - 2) ⟨by omega, by omega⟩ (by omega) (PB_0 (by omega)) rfl)
                  · exfalso
                    omega
            · exfalso
              omega
          · show wp _ _ 277 33 [(3, vI v39143), (0, .ref r0), (1, vI a1), (2, vI a2)] [vI z39160] _ H39144 _
            have _hv := hb_and (b := a1) (h := (v39143).toNat) (by omega) (by omega)
            rw [Int.toNat_of_nonneg (by omega : 0 ≤ v39143)] at _hv
            have _hc := @hb_b a1 (v39143).toNat
            have _hv3 := hb_str (f := e 13) (h := (v39143).toNat) p0 (by omega)
            refine wp_of e277 c277_33 (rw_if_ne (p1 := 39) (p2 := 36) (by decide) rfl ⟨Int.le_trans (by decide) b39161.1, Int.le_trans b39161.2 (by decide)⟩ (fun c42918 => ?_) (fun c42918 => ?_))
            · exfalso
              omega
            · refine wp_of e277 c277_36 (rw_goto (p1 := 185) (by decide) ?_)
              have _qa : PA (e 13) (XPV e d (xlots d).toNat) a2 (v39143 + 1) := PA_s (by omega) (by assumption : PA (e 13) (XPV e d (xlots d).toNat) a2 v39143) (by omega)
              refine wp_of e277 c277_185 (rw_iinc (pc' := 188) (z := v39143) (L' := [(3, vI (v39143 + 1)), (0, .ref r0), (1, vI a1), (2, vI a2)]) rfl rfl rfl rfl ?_)
              refine wp_of e277 c277_188 (rw_goto (p1 := 22) (by decide) ?_)
              exact wp_lc (ks := [3, 0, 1, 2]) (wl_c rfl (wl_c rfl (wl_c rfl (wl_c rfl wl_n)))) rfl (by decide) (ih39142 _ (by omega) (v39143 + 1) H39144 w39145 f39146 ⟨by omega, by omega⟩ (by omega) (_qa) rfl)
    exact wp_lc (ks := [3, 0, 1, 2]) (wl_c rfl (wl_c rfl (wl_c rfl (wl_c rfl wl_n)))) rfl (by decide) (lp39140 _ (a2 - 1) H hW wfr.rf ⟨by omega, by omega⟩ (by omega) (PA_0 (by omega)) rfl)
  · refine wp_of e277 c277_4 (rw_aload_n (pc' := 5) (v := .ref r0) rfl rfl rfl ?_)
    refine wp_of e277 c277_5 (rw_iconst (pc' := 6) rfl ?_)
    refine wp_of e277 c277_6 (xc_V (pc' := 9) (r := r0) (as := [vI 0]) (st := []) (lm_9_484) rfl rfl (Nat.le_of_ble_eq_true rfl) hW g0 sh_42 (by decide) rfl (by decide) (u_278 (e := e) (d := d) hW g0 ⟨by decide, by decide⟩ qpp gpp (by assumption) (by assumption) (by assumption) (by assumption) (by omega) (by omega) hRB_r0) (fun R42919 T42920 H42921 p42922 => ?_))
    obtain ⟨e42923, w42925, f42926, z42927, e42924, b42928, p42929⟩ := p42922
    subst e42923
    subst e42924
    rcases p42929 with ⟨a42930, a42931⟩ | ⟨a42932, a42933⟩
    · have f42934 := f0.tr f42926 rfl
      show wp _ _ 277 9 [(0, .ref r0), (1, vI a1), (2, vI a2)] [vI z42927] _ H42921 _
      refine wp_of e277 c277_9 (rw_if_eq (p1 := 16) (p2 := 12) (by decide) rfl ⟨Int.le_trans (by decide) b42928.1, Int.le_trans b42928.2 (by decide)⟩ (fun c42935 => ?_) (fun c42935 => ?_))
      · exfalso
        omega
      · refine wp_of e277 c277_12 (rw_iconst (pc' := 13) rfl ?_)
        refine wp_of e277 c277_13 (rw_goto (p1 := 17) (by decide) ?_)
        have _z : XLP (e 13) (XPV e d (xlots d).toNat) a2 0 := Or.inl ⟨by omega, Or.inl ⟨by assumption, rfl⟩⟩
        exact wp_ireturn e277 c277_17 rfl ⟨rfl, w42925, f42934, 0, rfl, ⟨by decide, by decide⟩, (_z)⟩
    · have f42936 := f0.tr f42926 rfl
      show wp _ _ 277 9 [(0, .ref r0), (1, vI a1), (2, vI a2)] [vI z42927] _ H42921 _
      refine wp_of e277 c277_9 (rw_if_eq (p1 := 16) (p2 := 12) (by decide) rfl ⟨Int.le_trans (by decide) b42928.1, Int.le_trans b42928.2 (by decide)⟩ (fun c42937 => ?_) (fun c42937 => ?_))
      · refine wp_of e277 c277_16 (rw_iconst (pc' := 17) rfl ?_)
        have _z : XLP (e 13) (XPV e d (xlots d).toNat) a2 (-1) := Or.inl ⟨by omega, Or.inr ⟨by assumption, rfl⟩⟩
        exact wp_ireturn e277 c277_17 rfl ⟨rfl, w42925, f42936, -1, rfl, ⟨by decide, by decide⟩, (_z)⟩
      · exfalso
        omega
