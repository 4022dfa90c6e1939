section
/-! StrikeAwakeModel.bothAsleep([I)I l -/
abbrev uq_235_l (r0 : Nat) (r1 : Nat) (pp : Nat) (e : xD) (d : xD) (g : Nat → Int) (T : wq_T) (H : wq_H) : Option Value → wq_T → wq_H → Prop := fun r T' H' => T = T' ∧ H = H' ∧ ∃ z : Int, some (vI z) = r ∧ (0 ≤ z ∧ z ≤ 16777215) ∧ (((z = xqu d g (d 0 3).toNat)))
set_option maxHeartbeats 4000000 in
theorem u_235_l {kt : Nat → Option mc_E} {T : wq_T} {H : wq_H} {r0 : Nat} {r1 : Nat} {pp : Nat} {e : xD} {d : xD} {g : Nat → Int} (hW : WT T H) (g0 : T.2.2.2 r0 = some 42) (g1 : T.2.2.2 r1 = some 51) (qpp : H r0 3 = (pp : Int)) (gpp : T.2.2.2 pp = some 54) (p0 : XW d) (p1 : SL d g) (p2 : XN d) (hRB_r0 : RB T H r0 e d) (hRR_r1 : RR T H r1 (d 0 3) g) : wpc kt 1 235 [.ref r0, .ref r1] T H (uq_235_l r0 r1 pp e d g T H) := by
  refine wp_enter e235 (Nat.le_of_ble_eq_true rfl) rfl ?_
  show wp _ _ 235 0 [(0, .ref r0), (1, .ref r1)] [] _ H _
  have b1176 : 0 ≤ H pp 4 ∧ H pp 4 ≤ 3 := hW.box gpp (n := 27) rfl (by decide) rfl
  have h1177 : MA18 T H pp (d 10) := RP_18 (RB_at hRB_r0 qpp)
  have h1178 : MA19 T H pp (d 11) := RP_19 (RB_at hRB_r0 qpp)
  have _xc := p0.2.1
  unfold XC at _xc
  have _n3 : H r0 3 ≠ -1 := by omega
  have _k := RP_k (RB_at hRB_r0 qpp)
  have _ar := RB_ar hRB_r0 (by omega)
  have _pk := _ar.1
  have h1179 : LB24 T H r0 (xas d) (xsq d) := _ar.2.2.2.2.2.2.1
  refine wp_of e235 c235_0 (rw_iconst (pc' := 1) rfl ?_)
  refine wp_of e235 c235_1 (rw_istore_n (pc' := 2) (z := 0) (L' := [(2, vI 0), (0, .ref r0), (1, .ref r1)]) rfl rfl rfl ?_)
  refine wp_of e235 c235_2 (rw_iconst (pc' := 3) rfl ?_)
  refine wp_of e235 c235_3 (rw_istore_n (pc' := 4) (z := 0) (L' := [(3, vI 0), (2, vI 0), (0, .ref r0), (1, .ref r1)]) rfl rfl rfl ?_)
  have lp1320 : ∀ (n1321 : Nat) (v1323 : Int) (v1324 : Int), (0 ≤ v1323 ∧ v1323 ≤ 3) → (0 ≤ v1324 ∧ v1324 ≤ 16777215) → (v1323 ≤ d 0 4) → (v1324 = xpq d g (v1323).toNat) → (3 - v1323).toNat = n1321 → wp kt 0 235 4 [(3, vI v1323), (2, vI v1324), (0, .ref r0), (1, .ref r1)] [] T H (uq_235_l r0 r1 pp e d g T H) := by
    intro n1321
    induction n1321 using Nat.strongRecOn with
    | _ n1321 ih1322 =>
      intro v1323 v1324 b1327 b1328 x1329 x1331 m1330
      refine wp_of e235 c235_4 (rw_iload_n (pc' := 5) (z := v1323) rfl rfl ?_)
      refine wp_of e235 c235_5 (rw_aload_n (pc' := 6) (v := .ref r0) rfl rfl rfl ?_)
      refine wp_of e235 c235_6 (xg_K (pc' := 9) lf_9_337 hW g0 sh_42 (by decide) (by decide) rfl qpp rfl ?_)
      refine wp_of e235 c235_9 (xg_I (pc' := 12) lf_9_276 hW gpp sh_54 (by decide) (by decide) ty_54_4 rfl rfl (fun b1332 b1333 => ?_))
      refine wp_of e235 c235_12 (rw_icmp_ge (p1 := 83) (p2 := 15) (by decide) rfl ⟨Int.le_trans (by decide) b1327.1, Int.le_trans b1327.2 (by decide)⟩ ⟨Int.le_trans (by decide) b1332, Int.le_trans b1333 (by decide)⟩ (fun c1334 => ?_) (fun c1334 => ?_))
      · refine wp_of e235 c235_83 (rw_iload_n (pc' := 84) (z := v1324) rfl rfl ?_)
        exact wp_ireturn e235 c235_84 rfl ⟨rfl, rfl, v1324, rfl, ⟨b1328.1, b1328.2⟩, (by rw [xqu_xpq p2 (by omega), show (d 0 4).toNat = (v1323).toNat by omega]; assumption)⟩
      · have _nn := p2 (v1323).toNat (by omega)
        refine wp_of e235 c235_15 (rw_iload_n (pc' := 16) (z := v1324) rfl rfl ?_)
        refine wp_of e235 c235_16 (rw_aload_n (pc' := 17) (v := .ref r0) rfl rfl rfl ?_)
        refine wp_of e235 c235_17 (xg_R (pc' := 20) lf_9_30 hW g0 sh_42 (by decide) (by decide) ty_42_24 rfl rfl (fun r1335 q1336 g1337 => ?_))
        refine wp_of e235 c235_20 (rw_bipush (pc' := 22) (z := 40) rfl (by decide) ?_)
        refine wp_of e235 c235_22 (rw_aload_n (pc' := 23) (v := .ref r0) rfl rfl rfl ?_)
        refine wp_of e235 c235_23 (xg_K (pc' := 26) lf_9_337 hW g0 sh_42 (by decide) (by decide) rfl qpp rfl ?_)
        refine wp_of e235 c235_26 (xg_R (pc' := 29) lf_9_282 hW gpp sh_54 (by decide) (by decide) ty_54_18 rfl rfl (fun r1338 q1339 g1340 => ?_))
        refine wp_of e235 c235_29 (rw_iload_n (pc' := 30) (z := v1323) rfl rfl ?_)
        refine wp_of e235 c235_30 (xa_I (so := 0) (pc' := 31) hW g1340 sh_64 (by decide) (ty_64 _) (b1327.1) (by omega) rfl (fun b1341 b1342 => ?_))
        have := MA_at h1177 q1339 (k := (v1323.toNat)) (by omega)
        have _s := p1 (d 10 (v1323).toNat).toNat (by omega)
        have _xp : xas d (d 10 (v1323).toNat).toNat ((xsp d (d 10 (v1323).toNat).toNat).getD (g (d 10 (v1323).toNat).toNat).toNat (0, 0)) = xsb d g (d 10 (v1323).toNat).toNat := rfl
        refine wp_of e235 c235_31 (rw_imul (pc' := 32) rfl ?_)
        refine wp_of e235 c235_32 (rw_aload_n (pc' := 33) (v := .ref r1) rfl rfl rfl ?_)
        refine wp_of e235 c235_33 (rw_aload_n (pc' := 34) (v := .ref r0) rfl rfl rfl ?_)
        refine wp_of e235 c235_34 (xg_K (pc' := 37) lf_9_337 hW g0 sh_42 (by decide) (by decide) rfl qpp rfl ?_)
        refine wp_of e235 c235_37 (xg_K (pc' := 40) lf_9_282 hW gpp sh_54 (by decide) (by decide) rfl q1339 rfl ?_)
        refine wp_of e235 c235_40 (rw_iload_n (pc' := 41) (z := v1323) rfl rfl ?_)
        refine wp_of e235 c235_41 (xa_I (so := 0) (pc' := 42) hW g1340 sh_64 (by decide) (ty_64 _) (b1327.1) (by omega) rfl (fun b1343 b1344 => ?_))
        have := MA_at h1177 q1339 (k := (v1323.toNat)) (by omega)
        refine wp_of e235 c235_42 (xa_I (so := 0) (pc' := 43) hW g1 sh_51 (by decide) (ty_51 _) (b1343) (Int.lt_of_le_of_lt b1344 (by decide)) rfl (fun b1345 b1346 => ?_))
        have := RR_at hRR_r1 (k := ((H r1338 (v1323.toNat)).toNat)) (by omega)
        refine wp_of e235 c235_43 (rw_iadd (pc' := 44) rfl ?_)
        have _ge : g ((H r1338 (v1323.toNat)).toNat) = g (d 10 (v1323).toNat).toNat := congrArg g (by omega)
        have _lx := LB_x h1179 q1336 (k := (d 10 (v1323).toNat).toNat) (i := (g (d 10 (v1323).toNat).toNat).toNat) (s := (((40 * (H r1338 (v1323.toNat))) + (H r1 ((H r1338 (v1323.toNat)).toNat))).toNat)) (by omega) (by omega) (by omega) _pk (by omega)
        refine wp_of e235 c235_44 (xa_I (so := 0) (pc' := 45) hW g1337 sh_48 (by decide) (ty_48 _) (by omega) (by omega) rfl (fun b1347 b1348 => ?_))
        refine wp_of e235 c235_45 (rw_aload_n (pc' := 46) (v := .ref r0) rfl rfl rfl ?_)
        refine wp_of e235 c235_46 (xg_K (pc' := 49) lf_9_30 hW g0 sh_42 (by decide) (by decide) rfl q1336 rfl ?_)
        refine wp_of e235 c235_49 (rw_bipush (pc' := 51) (z := 40) rfl (by decide) ?_)
        refine wp_of e235 c235_51 (rw_aload_n (pc' := 52) (v := .ref r0) rfl rfl rfl ?_)
        refine wp_of e235 c235_52 (xg_K (pc' := 55) lf_9_337 hW g0 sh_42 (by decide) (by decide) rfl qpp rfl ?_)
        refine wp_of e235 c235_55 (xg_R (pc' := 58) lf_9_285 hW gpp sh_54 (by decide) (by decide) ty_54_19 rfl rfl (fun r1349 q1350 g1351 => ?_))
        refine wp_of e235 c235_58 (rw_iload_n (pc' := 59) (z := v1323) rfl rfl ?_)
        refine wp_of e235 c235_59 (xa_I (so := 0) (pc' := 60) hW g1351 sh_65 (by decide) (ty_65 _) (b1327.1) (by omega) rfl (fun b1352 b1353 => ?_))
        have := MA_at h1178 q1350 (k := (v1323.toNat)) (by omega)
        have _s := p1 (d 11 (v1323).toNat).toNat (by omega)
        have _xp : xas d (d 11 (v1323).toNat).toNat ((xsp d (d 11 (v1323).toNat).toNat).getD (g (d 11 (v1323).toNat).toNat).toNat (0, 0)) = xsb d g (d 11 (v1323).toNat).toNat := rfl
        refine wp_of e235 c235_60 (rw_imul (pc' := 61) rfl ?_)
        refine wp_of e235 c235_61 (rw_aload_n (pc' := 62) (v := .ref r1) rfl rfl rfl ?_)
        refine wp_of e235 c235_62 (rw_aload_n (pc' := 63) (v := .ref r0) rfl rfl rfl ?_)
        refine wp_of e235 c235_63 (xg_K (pc' := 66) lf_9_337 hW g0 sh_42 (by decide) (by decide) rfl qpp rfl ?_)
        refine wp_of e235 c235_66 (xg_K (pc' := 69) lf_9_285 hW gpp sh_54 (by decide) (by decide) rfl q1350 rfl ?_)
        refine wp_of e235 c235_69 (rw_iload_n (pc' := 70) (z := v1323) rfl rfl ?_)
        refine wp_of e235 c235_70 (xa_I (so := 0) (pc' := 71) hW g1351 sh_65 (by decide) (ty_65 _) (b1327.1) (by omega) rfl (fun b1354 b1355 => ?_))
        have := MA_at h1178 q1350 (k := (v1323.toNat)) (by omega)
        refine wp_of e235 c235_71 (xa_I (so := 0) (pc' := 72) hW g1 sh_51 (by decide) (ty_51 _) (b1354) (Int.lt_of_le_of_lt b1355 (by decide)) rfl (fun b1356 b1357 => ?_))
        have := RR_at hRR_r1 (k := ((H r1349 (v1323.toNat)).toNat)) (by omega)
        refine wp_of e235 c235_72 (rw_iadd (pc' := 73) rfl ?_)
        have _ge : g ((H r1349 (v1323.toNat)).toNat) = g (d 11 (v1323).toNat).toNat := congrArg g (by omega)
        have _lx := LB_x h1179 q1336 (k := (d 11 (v1323).toNat).toNat) (i := (g (d 11 (v1323).toNat).toNat).toNat) (s := (((40 * (H r1349 (v1323.toNat))) + (H r1 ((H r1349 (v1323.toNat)).toNat))).toNat)) (by omega) (by omega) (by omega) _pk (by omega)
        refine wp_of e235 c235_73 (xa_I (so := 0) (pc' := 74) hW g1337 sh_48 (by decide) (ty_48 _) (by omega) (by omega) rfl (fun b1358 b1359 => ?_))
        refine wp_of e235 c235_74 (rw_iand (pc' := 75) rfl ?_)
        obtain ⟨v1360, e1361⟩ : ∃ x : Int, x = wq_and (H r1335 (((40 * (H r1338 (v1323.toNat))) + (H r1 ((H r1338 (v1323.toNat)).toNat))).toNat)) (H r1335 (((40 * (H r1349 (v1323.toNat))) + (H r1 ((H r1349 (v1323.toNat)).toNat))).toNat)) := ⟨_, rfl⟩
        rw [← e1361]
        have b1362 : -2147483648 ≤ v1360 ∧ v1360 ≤ 2147483647 := by
          rw [e1361]
          exact wI_and _ _
        have _an : v1360 = wq_and (xsb d g (d 10 (v1323).toNat).toNat) (xsb d g (d 11 (v1323).toNat).toNat) := xand_e e1361 (by omega) (by omega)
        have _ab := @xsb_and d g (d 10 (v1323).toNat).toNat (d 11 (v1323).toNat).toNat
        refine wp_of e235 c235_75 (rw_ior (pc' := 76) rfl ?_)
        obtain ⟨v1363, e1364⟩ : ∃ x : Int, x = wq_or v1324 v1360 := ⟨_, rfl⟩
        rw [← e1364]
        have b1365 : -2147483648 ≤ v1363 ∧ v1363 ≤ 2147483647 := by
          rw [e1364]
          exact wI_or _ _
        have _q : v1363 = xpq d g (v1323 + 1).toNat := by
          rw [show (v1323 + 1).toNat = (v1323).toNat + 1 by omega]
          exact xpq_s (y := 0) e1364 (by omega) _an
        have _qb2 := xpq_b (d := d) (g := g) (v1323 + 1).toNat
        refine wp_of e235 c235_76 (rw_istore_n (pc' := 77) (z := v1363) (L' := [(2, vI v1363), (3, vI v1323), (0, .ref r0), (1, .ref r1)]) rfl rfl rfl ?_)
        refine wp_of e235 c235_77 (rw_iinc (pc' := 80) (z := v1323) (L' := [(3, vI (v1323 + 1)), (2, vI v1363), (0, .ref r0), (1, .ref r1)]) rfl rfl rfl rfl ?_)
        refine wp_of e235 c235_80 (rw_goto (p1 := 4) (by decide) ?_)
        exact wp_lc (ks := [3, 2, 0, 1]) (wl_c rfl (wl_c rfl (wl_c rfl (wl_c rfl wl_n)))) rfl (by decide) (ih1322 _ (by omega) (v1323 + 1) v1363 ⟨by omega, by omega⟩ ⟨by omega, by omega⟩ (by omega) (_q) rfl)
  exact wp_lc (ks := [3, 2, 0, 1]) (wl_c rfl (wl_c rfl (wl_c rfl (wl_c rfl wl_n)))) rfl (by decide) (lp1320 _ 0 0 ⟨by decide, by decide⟩ ⟨by decide, by decide⟩ (by omega) (rfl) rfl)
/-! StrikeAwakeModel.barredAt([II)I l -/
abbrev uq_239_l (r0 : Nat) (r1 : Nat) (a2 : Int) (pp : Nat) (e : xD) (d : xD) (g : Nat → Int) (T : wq_T) (H : wq_H) : Option Value → wq_T → wq_H → Prop := fun r T' H' => T = T' ∧ H = H' ∧ ∃ z : Int, some (vI z) = r ∧ (0 ≤ z ∧ z ≤ 24) ∧ (((XFB (xbh a2 (xvy e d g)) (d 0 2) 24 z)))
set_option maxHeartbeats 4000000 in
theorem u_239_l {kt : Nat → Option mc_E} {T : wq_T} {H : wq_H} {r0 : Nat} {r1 : Nat} {a2 : Int} {pp : Nat} {e : xD} {d : xD} {g : Nat → Int} (hW : WT T H) (g0 : T.2.2.2 r0 = some 42) (g1 : T.2.2.2 r1 = some 51) (i2 : 0 ≤ a2 ∧ a2 ≤ 16777215) (qpp : H r0 3 = (pp : Int)) (gpp : T.2.2.2 pp = some 54) (p0 : XW d) (p1 : SL d g) (p2 : ∀ h : Nat, d 0 0 ≤ (h : Int) → h < 24 → e 13 h = 0) (p3 : ∀ h : Nat, h < 24 → 0 ≤ e 13 h ∧ e 13 h ≤ 100) (hRB_r0 : RB T H r0 e d) (hRR_r1 : RR T H r1 (d 0 3) g) : wpc kt 4 239 [.ref r0, .ref r1, vI a2] T H (uq_239_l r0 r1 a2 pp e d g T H) := by
  refine wp_enter e239 (Nat.le_of_ble_eq_true rfl) rfl ?_
  show wp _ _ 239 0 [(0, .ref r0), (1, .ref r1), (2, vI a2)] [] _ H _
  have b1394 : 0 ≤ H pp 0 ∧ H pp 0 ≤ 24 := hW.box gpp (n := 27) rfl (by decide) rfl
  have b1395 : (-2147483648) ≤ H pp 2 ∧ H pp 2 ≤ 2147483647 := hW.box gpp (n := 27) rfl (by decide) rfl
  have _xc := p0.2.1
  unfold XC at _xc
  have _n3 : H r0 3 ≠ -1 := by omega
  have _k := RP_k (RB_at hRB_r0 qpp)
  have _ar := RB_ar hRB_r0 (by omega)
  have _pk := _ar.1
  have h1396 : MN20 T H r0 24 (e 13) := _ar.2.2.1
  refine wp_of e239 c239_0 (rw_iconst (pc' := 1) rfl ?_)
  refine wp_of e239 c239_1 (rw_istore_n (pc' := 2) (z := 0) (L' := [(3, vI 0), (0, .ref r0), (1, .ref r1), (2, vI a2)]) rfl rfl rfl ?_)
  refine wp_of e239 c239_2 (rw_iconst (pc' := 3) rfl ?_)
  refine wp_of e239 c239_3 (rw_istore (pc' := 5) (z := 0) (L' := [(4, vI 0), (3, vI 0), (0, .ref r0), (1, .ref r1), (2, vI a2)]) rfl rfl rfl ?_)
  have lp1749 : ∀ (n1750 : Nat) (v1752 : Int) (v1753 : Int), (0 ≤ v1752 ∧ v1752 ≤ 24) → (0 ≤ v1753 ∧ v1753 ≤ 48) → (v1753 ≤ 2 * v1752) → (v1752 ≤ d 0 0) → (v1753 ≤ d 0 2) → (v1753 = xco (xbh a2 (xvy e d g)) (v1752).toNat) → (∀ h : Nat, (h : Int) < v1752 → xbad (xbh a2 (xvy e d g)) (d 0 2) h = false) → (24 - v1752).toNat = n1750 → wp kt 3 239 5 [(4, vI v1752), (3, vI v1753), (0, .ref r0), (1, .ref r1), (2, vI a2)] [] T H (uq_239_l r0 r1 a2 pp e d g T H) := by
    intro n1750
    induction n1750 using Nat.strongRecOn with
    | _ n1750 ih1751 =>
      intro v1752 v1753 b1756 b1757 x1759 x1760 x1761 x1762 x1763 m1758
      refine wp_of e239 c239_5 (rw_iload (pc' := 7) (z := v1752) rfl rfl ?_)
      refine wp_of e239 c239_7 (rw_aload_n (pc' := 8) (v := .ref r0) rfl rfl rfl ?_)
      refine wp_of e239 c239_8 (xg_K (pc' := 11) lf_9_337 hW g0 sh_42 (by decide) (by decide) rfl qpp rfl ?_)
      refine wp_of e239 c239_11 (xg_I (pc' := 14) lf_9_185 hW gpp sh_54 (by decide) (by decide) ty_54_0 rfl rfl (fun b1764 b1765 => ?_))
      refine wp_of e239 c239_14 (rw_icmp_ge (p1 := 79) (p2 := 17) (by decide) rfl ⟨Int.le_trans (by decide) b1756.1, Int.le_trans b1756.2 (by decide)⟩ ⟨Int.le_trans (by decide) b1764, Int.le_trans b1765 (by decide)⟩ (fun c1766 => ?_) (fun c1766 => ?_))
      · refine wp_of e239 c239_79 (rw_bipush (pc' := 81) (z := 24) rfl (by decide) ?_)
        have _z : XFB (xbh a2 (xvy e d g)) (d 0 2) 24 24 := XFB_e (xbad_all (u := (v1752).toNat) (fun h hh => ‹∀ h : Nat, (h : Int) < v1752 → xbad (xbh a2 (xvy e d g)) (d 0 2) h = false› h (by omega)) (xbad_gap (fun j a b => by
          unfold xbh
          split
          · rfl
          · exact xvy_0 (by have := p2 j (by omega) b; omega)) (by omega)))
        exact wp_ireturn e239 c239_81 rfl ⟨rfl, rfl, 24, rfl, ⟨by decide, by decide⟩, (_z)⟩
      · refine wp_of e239 c239_17 (rw_iload_n (pc' := 18) (z := a2) rfl rfl ?_)
        refine wp_of e239 c239_18 (rw_iload (pc' := 20) (z := v1752) rfl rfl ?_)
        refine wp_of e239 c239_20 (xc_S (pc' := 23) (as := [vI a2, vI v1752]) (st := []) (lm_9_346) rfl rfl (Nat.le_of_ble_eq_true rfl) rfl (by decide) (u_205  hW ⟨Int.le_trans (by decide) i2.1, Int.le_trans i2.2 (by decide)⟩ ⟨Int.le_trans (by decide) b1756.1, Int.le_trans b1756.2 (by decide)⟩) (fun R1767 T1768 H1769 p1770 => ?_))
        obtain ⟨e1771, e1773, z1774, e1772, b1775, p1776⟩ := p1770
        subst e1771
        subst e1772
        subst e1773
        rcases p1776 with ⟨a1777, a1778⟩ | ⟨a1779, a1780⟩
        · show wp _ _ 239 23 [(4, vI v1752), (3, vI v1753), (0, .ref r0), (1, .ref r1), (2, vI a2)] [vI z1774] _ H _
          have _h := hb_and (b := a2) (h := (v1752).toNat) (by omega) (by omega)
          rw [Int.toNat_of_nonneg (by omega : 0 ≤ v1752)] at _h
          have _hb := @hb_b a2 (v1752).toNat
          have _e3 := (by assumption : ∀ h : Nat, h < 24 → 0 ≤ e 13 h ∧ e 13 h ≤ 100) (v1752).toNat (by omega)
          refine wp_of e239 c239_23 (rw_if_eq (p1 := 73) (p2 := 26) (by decide) rfl ⟨Int.le_trans (by decide) b1775.1, Int.le_trans b1775.2 (by decide)⟩ (fun c1781 => ?_) (fun c1781 => ?_))
          · exfalso
            omega
          · refine wp_of e239 c239_26 (rw_aload_n (pc' := 27) (v := .ref r0) rfl rfl rfl ?_)
            refine wp_of e239 c239_27 (xg_R (pc' := 30) lf_9_17 hW g0 sh_42 (by decide) (by decide) ty_42_20 rfl rfl (fun r1782 q1783 g1784 => ?_))
            refine wp_of e239 c239_30 (rw_iload (pc' := 32) (z := v1752) rfl rfl ?_)
            refine wp_of e239 c239_32 (xa_I (so := 0) (pc' := 33) hW g1784 sh_44 (by decide) (ty_44 _) (b1756.1) (by omega) rfl (fun b1785 b1786 => ?_))
            have := DA_at h1396 q1783 (k := (v1752.toNat)) (by omega)
            refine wp_of e239 c239_33 (rw_if_ne (p1 := 39) (p2 := 36) (by decide) rfl ⟨b1785, b1786⟩ (fun c1787 => ?_) (fun c1787 => ?_))
            · refine wp_of e239 c239_39 (rw_aload_n (pc' := 40) (v := .ref r0) rfl rfl rfl ?_)
              refine wp_of e239 c239_40 (rw_aload_n (pc' := 41) (v := .ref r1) rfl rfl rfl ?_)
              refine wp_of e239 c239_41 (rw_iload (pc' := 43) (z := v1752) rfl rfl ?_)
              refine wp_of e239 c239_43 (xc_V (pc' := 46) (r := r0) (as := [.ref r1, vI v1752]) (st := []) (lm_9_390) rfl rfl (Nat.le_of_ble_eq_true rfl) hW g0 sh_42 (by decide) rfl (by decide) (u_234_l (e := e) (d := d) (g := g) hW g0 g1 ⟨b1756.1, by omega⟩ qpp gpp (by assumption) (by assumption) (by assumption) hRB_r0 hRR_r1) (fun R1788 T1789 H1790 p1791 => ?_))
              obtain ⟨e1792, e1794, z1795, e1793, b1796, p1797⟩ := p1791
              subst e1792
              subst e1793
              subst e1794
              show wp _ _ 239 46 [(4, vI v1752), (3, vI v1753), (0, .ref r0), (1, .ref r1), (2, vI a2)] [vI z1795] _ H _
              have _vb : z1795 = xvy e d g (v1752).toNat := by
                unfold xvy xvc
                rw [if_neg (by omega)]
                assumption
              refine wp_of e239 c239_46 (rw_istore (pc' := 48) (z := z1795) (L' := [(5, vI z1795), (4, vI v1752), (3, vI v1753), (0, .ref r0), (1, .ref r1), (2, vI a2)]) rfl rfl rfl ?_)
              refine wp_of e239 c239_48 (rw_iload_n (pc' := 49) (z := v1753) rfl rfl ?_)
              refine wp_of e239 c239_49 (rw_iload (pc' := 51) (z := z1795) rfl rfl ?_)
              refine wp_of e239 c239_51 (rw_iadd (pc' := 52) rfl ?_)
              refine wp_of e239 c239_52 (rw_istore_n (pc' := 53) (z := v1753 + z1795) (L' := [(3, vI (v1753 + z1795)), (5, vI z1795), (4, vI v1752), (0, .ref r0), (1, .ref r1), (2, vI a2)]) rfl rfl rfl ?_)
              refine wp_of e239 c239_53 (rw_iload (pc' := 55) (z := z1795) rfl rfl ?_)
              refine wp_of e239 c239_55 (rw_iconst (pc' := 56) rfl ?_)
              refine wp_of e239 c239_56 (rw_icmp_eq (p1 := 70) (p2 := 59) (by decide) rfl ⟨Int.le_trans (by decide) b1796.1, Int.le_trans b1796.2 (by decide)⟩ ⟨by decide, by decide⟩ (fun c1799 => ?_) (fun c1799 => ?_))
              · refine wp_of e239 c239_70 (rw_iload (pc' := 72) (z := v1752) rfl rfl ?_)
                have _z : XFB (xbh a2 (xvy e d g)) (d 0 2) 24 v1752 := XFB_y (k := (v1752).toNat) (by omega) (by omega) (xbad_t (by
                  have _xs : xco (xbh a2 (xvy e d g)) ((v1752).toNat + 1) = xco (xbh a2 (xvy e d g)) (v1752).toNat + xbh a2 (xvy e d g) (v1752).toNat := rfl
                  have _xh : xbh a2 (xvy e d g) (v1752).toNat = xvy e d g (v1752).toNat := if_neg (by omega)
                  omega)) (fun h hh => ‹∀ h : Nat, (h : Int) < v1752 → xbad (xbh a2 (xvy e d g)) (d 0 2) h = false› h (by omega))
                exact wp_ireturn e239 c239_72 rfl ⟨rfl, rfl, v1752, rfl, ⟨b1756.1, b1756.2⟩, (_z)⟩
              · refine wp_of e239 c239_59 (rw_iload_n (pc' := 60) (z := v1753 + z1795) rfl rfl ?_)
                refine wp_of e239 c239_60 (rw_aload_n (pc' := 61) (v := .ref r0) rfl rfl rfl ?_)
                refine wp_of e239 c239_61 (xg_K (pc' := 64) lf_9_337 hW g0 sh_42 (by decide) (by decide) rfl qpp rfl ?_)
                refine wp_of e239 c239_64 (xg_I (pc' := 67) lf_9_226 hW gpp sh_54 (by decide) (by decide) ty_54_2 rfl rfl (fun b1800 b1801 => ?_))
                refine wp_of e239 c239_67 (rw_icmp_le (p1 := 73) (p2 := 70) (by decide) rfl ⟨by omega, by omega⟩ ⟨b1800, b1801⟩ (fun c1802 => ?_) (fun c1802 => ?_))
                · have _xs : xco (xbh a2 (xvy e d g)) ((v1752).toNat + 1) = xco (xbh a2 (xvy e d g)) (v1752).toNat + xbh a2 (xvy e d g) (v1752).toNat := rfl
                  have _xh : (v1753 + z1795) = xco (xbh a2 (xvy e d g)) (v1752).toNat + xbh a2 (xvy e d g) (v1752).toNat ∧ xbh a2 (xvy e d g) (v1752).toNat ≠ 2 := by
                    by_cases c0 : hb a2 (v1752).toNat = 0
                    · have e0 : xbh a2 (xvy e d g) (v1752).toNat = 0 := if_pos c0
                      omega
                    · have e0 : xbh a2 (xvy e d g) (v1752).toNat = xvy e d g (v1752).toNat := if_neg c0
                      first | (have e1 := xvy_0 (e := e) (d := d) (g := g) (h := (v1752).toNat) (by omega); omega) | omega
                  have _q : (v1753 + z1795) = xco (xbh a2 (xvy e d g)) (v1752 + 1).toNat := by
                    rw [show (v1752 + 1).toNat = (v1752).toNat + 1 by omega]
                    omega
                  have _b2 : ∀ h : Nat, (h : Int) < v1752 + 1 → xbad (xbh a2 (xvy e d g)) (d 0 2) h = false := fun h hh => by
                    by_cases c0 : h = (v1752).toNat
                    · subst c0
                      exact xbad_f (by omega) (by omega)
                    · exact ‹∀ h : Nat, (h : Int) < v1752 → xbad (xbh a2 (xvy e d g)) (d 0 2) h = false› h (by omega)
                  refine wp_of e239 c239_73 (rw_iinc (pc' := 76) (z := v1752) (L' := [(4, vI (v1752 + 1)), (3, vI (v1753 + z1795)), (5, vI z1795), (0, .ref r0), (1, .ref r1), (2, vI a2)]) rfl rfl rfl rfl ?_)
                  refine wp_of e239 c239_76 (rw_goto (p1 := 5) (by decide) ?_)
                  exact wp_lc (ks := [4, 3, 5, 0, 1, 2]) (wl_c rfl (wl_c rfl (wl_c rfl (wl_c rfl (wl_c rfl wl_n))))) rfl (by decide) (ih1751 _ (by omega) (v1752 + 1) (v1753 + z1795) ⟨by omega, by omega⟩ ⟨by omega, by omega⟩ (by omega) (by omega) (by omega) (_q) (_b2) rfl)
                · refine wp_of e239 c239_70 (rw_iload (pc' := 72) (z := v1752) rfl rfl ?_)
                  have _z : XFB (xbh a2 (xvy e d g)) (d 0 2) 24 v1752 := XFB_y (k := (v1752).toNat) (by omega) (by omega) (xbad_t (by
                    have _xs : xco (xbh a2 (xvy e d g)) ((v1752).toNat + 1) = xco (xbh a2 (xvy e d g)) (v1752).toNat + xbh a2 (xvy e d g) (v1752).toNat := rfl
                    have _xh : xbh a2 (xvy e d g) (v1752).toNat = xvy e d g (v1752).toNat := if_neg (by omega)
                    omega)) (fun h hh => ‹∀ h : Nat, (h : Int) < v1752 → xbad (xbh a2 (xvy e d g)) (d 0 2) h = false› h (by omega))
                  exact wp_ireturn e239 c239_72 rfl ⟨rfl, rfl, v1752, rfl, ⟨b1756.1, b1756.2⟩, (_z)⟩
            · refine wp_of e239 c239_36 (rw_goto (p1 := 73) (by decide) ?_)
              have _xs : xco (xbh a2 (xvy e d g)) ((v1752).toNat + 1) = xco (xbh a2 (xvy e d g)) (v1752).toNat + xbh a2 (xvy e d g) (v1752).toNat := rfl
              have _xh : v1753 = xco (xbh a2 (xvy e d g)) (v1752).toNat + xbh a2 (xvy e d g) (v1752).toNat ∧ xbh a2 (xvy e d g) (v1752).toNat ≠ 2 := by
                by_cases c0 : hb a2 (v1752).toNat = 0
                · have e0 : xbh a2 (xvy e d g) (v1752).toNat = 0 := if_pos c0
                  omega
                · have e0 : xbh a2 (xvy e d g) (v1752).toNat = xvy e d g (v1752).toNat := if_neg c0
                  first | (have e1 := xvy_0 (e := e) (d := d) (g := g) (h := (v1752).toNat) (by omega); omega) | omega
              have _q : v1753 = xco (xbh a2 (xvy e d g)) (v1752 + 1).toNat := by
                rw [show (v1752 + 1).toNat = (v1752).toNat + 1 by omega]
                omega
              have _b2 : ∀ h : Nat, (h : Int) < v1752 + 1 → xbad (xbh a2 (xvy e d g)) (d 0 2) h = false := fun h hh => by
                by_cases c0 : h = (v1752).toNat
                · subst c0
                  exact xbad_f (by omega) (by omega)
                · exact ‹∀ h : Nat, (h : Int) < v1752 → xbad (xbh a2 (xvy e d g)) (d 0 2) h = false› h (by omega)
              refine wp_of e239 c239_73 (rw_iinc (pc' := 76) (z := v1752) (L' := [(4, vI (v1752 + 1)), (3, vI v1753), (0, .ref r0), (1, .ref r1), (2, vI a2)]) rfl rfl rfl rfl ?_)
              refine wp_of e239 c239_76 (rw_goto (p1 := 5) (by decide) ?_)
              exact wp_lc (ks := [4, 3, 0, 1, 2]) (wl_c rfl (wl_c rfl (wl_c rfl (wl_c rfl (wl_c rfl wl_n))))) rfl (by decide) (ih1751 _ (by omega) (v1752 + 1) v1753 ⟨by omega, by omega⟩ ⟨b1757.1, b1757.2⟩ (by omega) (by omega) (by omega) (_q) (_b2) rfl)
        · show wp _ _ 239 23 [(4, vI v1752), (3, vI v1753), (0, .ref r0), (1, .ref r1), (2, vI a2)] [vI z1774] _ H _
          have _h := hb_and (b := a2) (h := (v1752).toNat) (by omega) (by omega)
          rw [Int.toNat_of_nonneg (by omega : 0 ≤ v1752)] at _h
          have _hb := @hb_b a2 (v1752).toNat
          have _e3 := (by assumption : ∀ h : Nat, h < 24 → 0 ≤ e 13 h ∧ e 13 h ≤ 100) (v1752).toNat (by omega)
          refine wp_of e239 c239_23 (rw_if_eq (p1 := 73) (p2 := 26) (by decide) rfl ⟨Int.le_trans (by decide) b1775.1, Int.le_trans b1775.2 (by decide)⟩ (fun c1803 => ?_) (fun c1803 => ?_))
          · have _xs : xco (xbh a2 (xvy e d g)) ((v1752).toNat + 1) = xco (xbh a2 (xvy e d g)) (v1752).toNat + xbh a2 (xvy e d g) (v1752).toNat := rfl
            have _xh : v1753 = xco (xbh a2 (xvy e d g)) (v1752).toNat + xbh a2 (xvy e d g) (v1752).toNat ∧ xbh a2 (xvy e d g) (v1752).toNat ≠ 2 := by
              by_cases c0 : hb a2 (v1752).toNat = 0
              · have e0 : xbh a2 (xvy e d g) (v1752).toNat = 0 := if_pos c0
                omega
              · have e0 : xbh a2 (xvy e d g) (v1752).toNat = xvy e d g (v1752).toNat := if_neg c0
                first | (have e1 := xvy_0 (e := e) (d := d) (g := g) (h := (v1752).toNat) (by omega); omega) | omega
            have _q : v1753 = xco (xbh a2 (xvy e d g)) (v1752 + 1).toNat := by
              rw [show (v1752 + 1).toNat = (v1752).toNat + 1 by omega]
              omega
            have _b2 : ∀ h : Nat, (h : Int) < v1752 + 1 → xbad (xbh a2 (xvy e d g)) (d 0 2) h = false := fun h hh => by
              by_cases c0 : h = (v1752).toNat
              · subst c0
                exact xbad_f (by omega) (by omega)
              · exact ‹∀ h : Nat, (h : Int) < v1752 → xbad (xbh a2 (xvy e d g)) (d 0 2) h = false› h (by omega)
            refine wp_of e239 c239_73 (rw_iinc (pc' := 76) (z := v1752) (L' := [(4, vI (v1752 + 1)), (3, vI v1753), (0, .ref r0), (1, .ref r1), (2, vI a2)]) rfl rfl rfl rfl ?_)
            refine wp_of e239 c239_76 (rw_goto (p1 := 5) (by decide) ?_)
            exact wp_lc (ks := [4, 3, 0, 1, 2]) (wl_c rfl (wl_c rfl (wl_c rfl (wl_c rfl (wl_c rfl wl_n))))) rfl (by decide) (ih1751 _ (by omega) (v1752 + 1) v1753 ⟨by omega, by omega⟩ ⟨b1757.1, b1757.2⟩ (by omega) (by omega) (by omega) (_q) (_b2) rfl)
          · exfalso
            omega
  exact wp_lc (ks := [4, 3, 0, 1, 2]) (wl_c rfl (wl_c rfl (wl_c rfl (wl_c rfl (wl_c rfl wl_n))))) rfl (by decide) (lp1749 _ 0 0 ⟨by decide, by decide⟩ ⟨by decide, by decide⟩ (by omega) (by omega) (by omega) (rfl) (fun h hh => by omega) rfl)
/-! StrikeAwakeModel.isWorld([I)Z l -/
abbrev uq_238_l (r0 : Nat) (r1 : Nat) (pp : Nat) (e : xD) (d : xD) (g : Nat → Int) (T : wq_T) (H : wq_H) : Option Value → wq_T → wq_H → Prop := fun r T' H' => T = T' ∧ H = H' ∧ ∃ z : Int, some (vI z) = r ∧ (0 ≤ z ∧ z ≤ 1) ∧ (((z = xwo e d g)))
set_option maxHeartbeats 4000000 in
theorem u_238_l {kt : Nat → Option mc_E} {T : wq_T} {H : wq_H} {r0 : Nat} {r1 : Nat} {pp : Nat} {e : xD} {d : xD} {g : Nat → Int} (hW : WT T H) (g0 : T.2.2.2 r0 = some 42) (g1 : T.2.2.2 r1 = some 51) (qpp : H r0 3 = (pp : Int)) (gpp : T.2.2.2 pp = some 54) (p0 : XW d) (p1 : SL d g) (p2 : ∀ h : Nat, d 0 0 ≤ (h : Int) → h < 24 → e 13 h = 0) (p3 : XN d) (p4 : ∀ h : Nat, h < 24 → 0 ≤ e 13 h ∧ e 13 h ≤ 100) (hRB_r0 : RB T H r0 e d) (hRR_r1 : RR T H r1 (d 0 3) g) : wpc kt 5 238 [.ref r0, .ref r1] T H (uq_238_l r0 r1 pp e d g T H) := by
  refine wp_enter e238 (Nat.le_of_ble_eq_true rfl) rfl ?_
  show wp _ _ 238 0 [(0, .ref r0), (1, .ref r1)] [] _ H _
  have b1027 : (-2147483648) ≤ H r0 19 ∧ H r0 19 ≤ 2147483647 := hW.box g0 (n := 33) rfl (by decide) rfl
  have _xc := p0.2.1
  unfold XC at _xc
  have _n3 : H r0 3 ≠ -1 := by omega
  have _k := RP_k (RB_at hRB_r0 qpp)
  have _alb := @xal_b d
  refine wp_of e238 c238_0 (rw_aload_n (pc' := 1) (v := .ref r0) rfl rfl rfl ?_)
  refine wp_of e238 c238_1 (rw_aload_n (pc' := 2) (v := .ref r1) rfl rfl rfl ?_)
  refine wp_of e238 c238_2 (xc_V (pc' := 5) (r := r0) (as := [.ref r1]) (st := []) (lm_9_393) rfl rfl (Nat.le_of_ble_eq_true rfl) hW g0 sh_42 (by decide) rfl (by decide) (u_235_l (e := e) (d := d) (g := g) hW g0 g1 qpp gpp (by assumption) (by assumption) (by assumption) hRB_r0 hRR_r1) (fun R1028 T1029 H1030 p1031 => ?_))
  obtain ⟨e1032, e1034, z1035, e1033, b1036, p1037⟩ := p1031
  subst e1032
  subst e1033
  subst e1034
  show wp _ _ 238 5 [(0, .ref r0), (1, .ref r1)] [vI z1035] _ H _
  refine wp_of e238 c238_5 (rw_if_ne (p1 := 26) (p2 := 8) (by decide) rfl ⟨Int.le_trans (by decide) b1036.1, Int.le_trans b1036.2 (by decide)⟩ (fun c1039 => ?_) (fun c1039 => ?_))
  · refine wp_of e238 c238_26 (rw_iconst (pc' := 27) rfl ?_)
    have _z : (0 : Int) = xwo e d g := by first | omega | exact (xwo_q (by omega)).symm
    exact wp_zreturn e238 c238_27 rfl (by omega) ⟨rfl, rfl, 0, rfl, ⟨by decide, by decide⟩, (_z)⟩
  · refine wp_of e238 c238_8 (rw_aload_n (pc' := 9) (v := .ref r0) rfl rfl rfl ?_)
    refine wp_of e238 c238_9 (rw_aload_n (pc' := 10) (v := .ref r1) rfl rfl rfl ?_)
    refine wp_of e238 c238_10 (rw_aload_n (pc' := 11) (v := .ref r0) rfl rfl rfl ?_)
    refine wp_of e238 c238_11 (xg_I (pc' := 14) lf_9_343 hW g0 sh_42 (by decide) (by decide) ty_42_19 rfl rfl (fun b1040 b1041 => ?_))
    refine wp_of e238 c238_14 (xc_V (pc' := 17) (r := r0) (as := [.ref r1, vI (H r0 19)]) (st := []) (lm_9_397) rfl rfl (Nat.le_of_ble_eq_true rfl) hW g0 sh_42 (by decide) rfl (by decide) (u_239_l (e := e) (d := d) (g := g) hW g0 g1 ⟨by omega, by omega⟩ qpp gpp (by assumption) (by assumption) (by assumption) (by assumption) hRB_r0 hRR_r1) (fun R1042 T1043 H1044 p1045 => ?_))
    obtain ⟨e1046, e1048, z1049, e1047, b1050, p1051⟩ := p1045
    subst e1046
    subst e1047
    subst e1048
    show wp _ _ 238 17 [(0, .ref r0), (1, .ref r1)] [vI z1049] _ H _
    have _fb : XFB (xvy e d g) (d 0 2) 24 z1049 := XFB_cg (xbh_al ⟨by omega, by omega⟩ p2) (by rw [← show H r0 19 = xal d by omega]; assumption)
    have _w := xwo_f (e := e) (d := d) (g := g) (by omega) _fb
    refine wp_of e238 c238_17 (rw_bipush (pc' := 19) (z := 24) rfl (by decide) ?_)
    refine wp_of e238 c238_19 (rw_icmp_ne (p1 := 26) (p2 := 22) (by decide) rfl ⟨Int.le_trans (by decide) b1050.1, Int.le_trans b1050.2 (by decide)⟩ ⟨by decide, by decide⟩ (fun c1053 => ?_) (fun c1053 => ?_))
    · refine wp_of e238 c238_26 (rw_iconst (pc' := 27) rfl ?_)
      have _z : (0 : Int) = xwo e d g := by first | omega | exact (xwo_q (by omega)).symm
      exact wp_zreturn e238 c238_27 rfl (by omega) ⟨rfl, rfl, 0, rfl, ⟨by decide, by decide⟩, (_z)⟩
    · refine wp_of e238 c238_22 (rw_iconst (pc' := 23) rfl ?_)
      refine wp_of e238 c238_23 (rw_goto (p1 := 27) (by decide) ?_)
      have _z : (1 : Int) = xwo e d g := by first | omega | exact (xwo_q (by omega)).symm
      exact wp_zreturn e238 c238_27 rfl (by omega) ⟨rfl, rfl, 1, rfl, ⟨by decide, by decide⟩, (_z)⟩
/-! StrikeAwakeModel.knows()V  -/
abbrev uq_242 (r0 : Nat) (pp : Nat) (e : xD) (d : xD) (T : wq_T) (H : wq_H) : Option Value → wq_T → wq_H → Prop := fun r T' H' => T = T' ∧ WT T H' ∧ wfr [(42, 28), (42, 29), (51, 999), (52, 999)] T H H' ∧ none = r ∧ (((wKI H' r0 = 1) ∧ (H' r0 29 = 0 ∨ 0 < wLM H' r0) ∧ (wLM H' r0 = wLM H r0) ∧ (H' r0 28 ≠ 0) ∧ KNB T H' r0 e d (xlots d).toNat))
set_option maxHeartbeats 4000000 in
theorem u_242 {kt : Nat → Option mc_E} {T : wq_T} {H : wq_H} {r0 : Nat} {pp : Nat} {e : xD} {d : xD} (hW : WT T H) (g0 : T.2.2.2 r0 = some 42) (qpp : H r0 3 = (pp : Int)) (gpp : T.2.2.2 pp = some 54) (p0 : wKI H r0 = 1) (p1 : wLM H r0 ≤ 20000) (p2 : XW d) (p3 : ∀ h : Nat, d 0 0 ≤ (h : Int) → h < 24 → e 13 h = 0) (p4 : XN d) (p5 : ∀ h : Nat, h < 24 → 0 ≤ e 13 h ∧ e 13 h ≤ 100) (hRB_r0 : RB T H r0 e d) (hKNN_r0 : KNN T H r0 e d) : wpc kt 6 242 [.ref r0] T H (uq_242 r0 pp e d T H) := by
  refine wp_enter e242 (Nat.le_of_ble_eq_true rfl) rfl ?_
  have f0 : wfr [(42, 28), (42, 29), (51, 999), (52, 999)] T H H := wfr.rf
  show wp _ _ 242 0 [(0, .ref r0)] [] _ H _
  have b1556 : 0 ≤ H r0 29 ∧ H r0 29 ≤ 20000 := hW.box g0 (n := 33) rfl (by decide) rfl
  have hk := wKI_1.mp p0
  have _lm := RB_lm hRB_r0
  have _xw := (by assumption : XW d)
  have _x0 : 0 ≤ xlots d := (xpr_b _xw.1 _ _).1
  have _n3 : H r0 3 ≠ -1 := by omega
  refine wp_of e242 c242_0 (rw_aload_n (pc' := 1) (v := .ref r0) rfl rfl rfl ?_)
  refine wp_of e242 c242_1 (xg_I (pc' := 4) lf_9_353 hW g0 sh_42 (by decide) (by decide) ty_42_28 rfl rfl (fun b1557 b1558 => ?_))
  refine wp_of e242 c242_4 (rw_if_eq (p1 := 8) (p2 := 7) (by decide) rfl ⟨Int.le_trans (by decide) b1557, Int.le_trans b1558 (by decide)⟩ (fun c1559 => ?_) (fun c1559 => ?_))
  · refine wp_of e242 c242_8 (rw_aload_n (pc' := 9) (v := .ref r0) rfl rfl rfl ?_)
    refine wp_of e242 c242_9 (rw_iconst (pc' := 10) rfl ?_)
    refine wp_of e242 c242_10 (xp_I (pc' := 13) lf_9_422 hW g0 sh_42 (by decide) (by decide) ty_42_29 rfl rfl (by decide) (by decide) ⟨by decide, by decide⟩ rfl (fun H1560 e1561 w1562 => ?_))
    have f1563 := f0.put' e1561 g0 rfl
    have k1564 : H1560 r0 29 = 0 := wq_u_s e1561
    have h1565 : KL T H1560 r0 (xwf e d) ((0 : Int)).toNat := KL_0 w1562 g0
    refine wp_of e242 c242_13 (rw_iconst (pc' := 14) rfl ?_)
    refine wp_of e242 c242_14 (rw_istore_n (pc' := 15) (z := 0) (L' := [(1, vI 0), (0, .ref r0)]) rfl rfl rfl ?_)
    have k2052 : wLM H1560 r0 = wLM H r0 := (wLM_fr hW g0 ((wfr.rf (l := [(42, 29)])).put' e1561 g0 rfl) rfl)
    have lp2047 : ∀ (n2048 : Nat) (v2050 : Int) (H2051 : wq_H), WT T H2051 → wfr [(42, 29), (51, 999), (52, 999)] T H1560 H2051 → (0 ≤ v2050 ∧ v2050 ≤ 20000) → (H2051 r0 29 ≤ v2050) → (H2051 r0 29 = 0 ∨ 0 < wLM H2051 r0) → KL T H2051 r0 (xwf e d) (v2050).toNat → (v2050 ≤ xlots d) → (H2051 r0 29 = xcn (xwf e d) (v2050).toNat) → (20000 - v2050).toNat = n2048 → wp kt 5 242 15 [(1, vI v2050), (0, .ref r0)] [] T H2051 (uq_242 r0 pp e d T H) := by
      intro n2048
      induction n2048 using Nat.strongRecOn with
      | _ n2048 ih2049 =>
        intro v2050 H2051 w2053 f2054 b2055 x2056 x2057 h2059 x2060 x2061 m2058
        have f2062 := f1563.tr f2054 rfl
        have k2063 : wLM H2051 r0 = wLM H1560 r0 := (wLM_fr w1562 g0 f2054 rfl)
        refine wp_of e242 c242_15 (rw_iload_n (pc' := 16) (z := v2050) rfl rfl ?_)
        refine wp_of e242 c242_16 (rw_i2l (pc' := 17) rfl ⟨Int.le_trans (by decide) b2055.1, Int.le_trans b2055.2 (by decide)⟩ ?_)
        refine wp_of e242 c242_17 (rw_aload_n (pc' := 18) (v := .ref r0) rfl rfl rfl ?_)
        have k2064 : H2051 r0 3 = H r0 3 := ((f2054 r0 3 _ g0 rfl).trans (wq_u_j e1561 rfl))
        have q2065 : H2051 r0 3 = (pp : Int) := k2064.trans qpp
        refine wp_of e242 c242_18 (xc_V (pc' := 21) (r := r0) (as := []) (st := [vL v2050]) (lm_9_376) rfl rfl (Nat.le_of_ble_eq_true rfl) w2053 g0 sh_42 (by decide) rfl (by decide) (s_220 w2053 g0 q2065 gpp) (fun R2066 T2067 H2068 p2069 => ?_))
        obtain ⟨e2070, e2072, z2074, e2071, b2075, p2073⟩ := p2069
        subst e2070
        subst e2071
        subst e2072
        show wp _ _ 242 21 [(1, vI v2050), (0, .ref r0)] [vL z2074, vL v2050] _ H2051 _
        refine wp_of e242 c242_21 (rw_lcmp (pc' := 22) rfl ⟨Int.le_trans (by decide) b2055.1, Int.le_trans b2055.2 (by decide)⟩ ⟨Int.le_trans (by decide) b2075.1, Int.le_trans b2075.2 (by decide)⟩ ?_)
        have b2076 := wq_cmp_b v2050 z2074
        refine wp_of e242 c242_22 (rw_if_ge (p1 := 70) (p2 := 25) (by decide) rfl ⟨by omega, by omega⟩ (fun c2077 => ?_) (fun c2077 => ?_))
        · have h2078 : KNB T H2051 r0 e d (xlots d).toNat := by rw [show (xlots d).toNat = (v2050).toNat by omega]; exact ⟨by omega, h2059⟩
          refine wp_of e242 c242_70 (rw_aload_n (pc' := 71) (v := .ref r0) rfl rfl rfl ?_)
          refine wp_of e242 c242_71 (rw_iconst (pc' := 72) rfl ?_)
          refine wp_of e242 c242_72 (xp_Z (pc' := 75) lf_9_353 w2053 g0 sh_42 (by decide) (by decide) ty_42_28 rfl rfl (by decide) (by decide) rfl (fun H2079 e2080 w2081 => ?_))
          have f2082 := f2062.put' e2080 g0 rfl
          have k2083 : H2079 r0 28 = 1 := wq_u_s e2080
          have k2084 : H2079 r0 29 = H2051 r0 29 := (wq_u_j e2080 rfl)
          have k2085 : wLM H2079 r0 = wLM H2051 r0 := (wLM_fr w2053 g0 ((wfr.rf (l := [(42, 28)])).put' e2080 g0 rfl) rfl)
          have k2086 : wKI H2079 r0 = 1 := wKI_1.mpr (by omega)
          have h2087 : KNB T H2079 r0 e d (xlots d).toNat := (KNB_fr w2053 g0 ((wfr.rf (l := [(42, 28)])).put' e2080 g0 rfl) rfl h2078)
          exact wp_return e242 c242_75 rfl ⟨rfl, w2081, f2082, rfl, ⟨by omega, by omega, by omega, by omega, h2087⟩⟩
        · refine wp_of e242 c242_25 (rw_aload_n (pc' := 26) (v := .ref r0) rfl rfl rfl ?_)
          refine wp_of e242 c242_26 (rw_iload_n (pc' := 27) (z := v2050) rfl rfl ?_)
          have h2088 : RB T H2051 r0 e d := (RB_fr w1562 g0 f2054 rfl (RB_fr hW g0 ((wfr.rf (l := [(42, 29)])).put' e1561 g0 rfl) rfl hRB_r0))
          refine wp_of e242 c242_27 (xc_V (pc' := 30) (r := r0) (as := [vI v2050]) (st := []) (lm_9_425) rfl rfl (Nat.le_of_ble_eq_true rfl) w2053 g0 sh_42 (by decide) rfl (by decide) (u_243 (e := e) (d := d) w2053 g0 ⟨b2055.1, Int.le_trans b2055.2 (by decide)⟩ q2065 gpp (by omega) h2088) (fun R2089 T2090 H2091 p2092 => ?_))
          obtain ⟨e2093, w2095, f2096, e2094, p2097⟩ := p2092
          subst e2093
          subst e2094
          have f2099 := f2062.tr f2096 rfl
          have f2100 := f2054.tr f2096 rfl
          show wp _ _ 242 30 [(1, vI v2050), (0, .ref r0)] [] _ H2091 _
          have _sl : SL d (xlot d v2050) := SL_lot _xw.1 (by omega) (by omega)
          refine wp_of e242 c242_30 (rw_aload_n (pc' := 31) (v := .ref r0) rfl rfl rfl ?_)
          refine wp_of e242 c242_31 (rw_aload_n (pc' := 32) (v := .ref r0) rfl rfl rfl ?_)
          refine wp_of e242 c242_32 (xg_R (pc' := 35) lf_9_39 w2095 g0 sh_42 (by decide) (by decide) ty_42_27 rfl rfl (fun r2101 q2102 g2103 => ?_))
          have h2104 : RR T H2091 r2101 (d 0 3) (xlot d v2050) := RR_27 p2097 q2102 g2103 (by omega)
          have k2105 : H2091 r0 3 = H2051 r0 3 := (f2096 r0 3 _ g0 rfl)
          have q2106 : H2091 r0 3 = (pp : Int) := k2105.trans q2065
          have h2107 : RB T H2091 r0 e d := (RB_fr w2053 g0 f2096 rfl h2088)
          refine wp_of e242 c242_35 (xc_V (pc' := 38) (r := r0) (as := [.ref r2101]) (st := []) (lm_9_418) rfl rfl (Nat.le_of_ble_eq_true rfl) w2095 g0 sh_42 (by decide) rfl (by decide) (u_238_l (e := e) (d := d) (g := ((xlot d v2050))) w2095 g0 g2103 q2106 gpp (by assumption) (by assumption) (by assumption) (by assumption) (by assumption) h2107 h2104) (fun R2108 T2109 H2110 p2111 => ?_))
          obtain ⟨e2112, e2114, z2115, e2113, b2116, p2117⟩ := p2111
          subst e2112
          subst e2113
          subst e2114
          show wp _ _ 242 38 [(1, vI v2050), (0, .ref r0)] [vI z2115] _ H2091 _
          refine wp_of e242 c242_38 (rw_if_ne (p1 := 44) (p2 := 41) (by decide) rfl ⟨Int.le_trans (by decide) b2116.1, Int.le_trans b2116.2 (by decide)⟩ (fun c2119 => ?_) (fun c2119 => ?_))
          · have _fp : xwf e d (v2050).toNat > 0 := by
              rw [xwf_v (by omega)]
              omega
            have _xs := xcw_s (e := e) (d := d) (v := v2050) (by omega)
            refine wp_of e242 c242_44 (rw_aload_n (pc' := 45) (v := .ref r0) rfl rfl rfl ?_)
            refine wp_of e242 c242_45 (xg_R (pc' := 48) lf_9_42 w2095 g0 sh_42 (by decide) (by decide) ty_42_30 rfl rfl (fun r2120 q2121 g2122 => ?_))
            refine wp_of e242 c242_48 (rw_aload_n (pc' := 49) (v := .ref r0) rfl rfl rfl ?_)
            have k2123 : H2091 r0 29 = H2051 r0 29 := (f2096 r0 29 _ g0 rfl)
            refine wp_of e242 c242_49 (xg_I (pc' := 52) lf_9_422 w2095 g0 sh_42 (by decide) (by decide) ty_42_29 rfl rfl (fun b2124 b2125 => ?_))
            refine wp_of e242 c242_52 (rw_iload_n (pc' := 53) (z := v2050) rfl rfl ?_)
            have h2126 : KL T H2091 r0 (xwf e d) (v2050).toNat := (KL_fr w2053 g0 f2096 rfl h2059)
            refine wp_of e242 c242_53 (xs_I (pc' := 54) w2095 g2122 (by decide) sh_52 (by decide) (ty_52 _) (b2055.1) (by omega) ⟨Int.le_trans (by decide) b2055.1, Int.le_trans b2055.2 (by decide)⟩ (b2124) (by omega) rfl (fun H2127 e2128 w2129 => ?_))
            have f2130 := f2099.put' e2128 g2122 rfl
            have f2131 := f2100.put' e2128 g2122 rfl
            have h2132 : KL T H2127 r0 (xwf e d) (v2050 + 1).toNat := by
              rw [show (v2050 + 1).toNat = (v2050).toNat + 1 by omega]
              exact KL_put h2126 q2121 g0 g2122 e2128 (by omega) (by omega) _fp
            refine wp_of e242 c242_54 (rw_aload_n (pc' := 55) (v := .ref r0) rfl rfl rfl ?_)
            refine wp_of e242 c242_55 (rw_dup (pc' := 56) rfl rfl ?_)
            have k2133 : H2127 r0 29 = H2091 r0 29 := (wq_u_t e2128 g2122 g0 rfl 29)
            refine wp_of e242 c242_56 (xg_I (pc' := 59) lf_9_422 w2129 g0 sh_42 (by decide) (by decide) ty_42_29 rfl rfl (fun b2134 b2135 => ?_))
            refine wp_of e242 c242_59 (rw_iconst (pc' := 60) rfl ?_)
            refine wp_of e242 c242_60 (rw_iadd (pc' := 61) rfl ?_)
            refine wp_of e242 c242_61 (xp_I (pc' := 64) lf_9_422 w2129 g0 sh_42 (by decide) (by decide) ty_42_29 rfl rfl (by omega) (by omega) ⟨by omega, by omega⟩ rfl (fun H2136 e2137 w2138 => ?_))
            have f2139 := f2130.put' e2137 g0 rfl
            have f2140 := f2131.put' e2137 g0 rfl
            have k2141 : H2136 r0 29 = (H2127 r0 29) + 1 := wq_u_s e2137
            have _xs2 := xcw_s (e := e) (d := d) (v := v2050) (by omega)
            refine wp_of e242 c242_64 (rw_iinc (pc' := 67) (z := v2050) (L' := [(1, vI (v2050 + 1)), (0, .ref r0)]) rfl rfl rfl rfl ?_)
            refine wp_of e242 c242_67 (rw_goto (p1 := 15) (by decide) ?_)
            have k2142 : wLM H2136 r0 = wLM H2051 r0 := ((wLM_fr w2129 g0 ((wfr.rf (l := [(42, 29)])).put' e2137 g0 rfl) rfl).trans ((wLM_fr w2095 g0 ((wfr.rf (l := [(52, 999)])).put' e2128 g2122 rfl) rfl).trans (wLM_fr w2053 g0 f2096 rfl)))
            have h2143 : KL T H2136 r0 (xwf e d) (v2050 + 1).toNat := (KL_fr w2129 g0 ((wfr.rf (l := [(42, 29)])).put' e2137 g0 rfl) rfl h2132)
            exact wp_lc (ks := [1, 0]) (wl_c rfl (wl_c rfl wl_n)) rfl (by decide) (ih2049 _ (by omega) (v2050 + 1) H2136 w2138 f2140 ⟨by omega, by omega⟩ (by omega) (by omega) h2143 (by omega) (by omega) rfl)
          · refine wp_of e242 c242_41 (rw_goto (p1 := 64) (by decide) ?_)
            have _xs2 := xcw_s (e := e) (d := d) (v := v2050) (by omega)
            have h2144 : KL T H2091 r0 (xwf e d) (v2050).toNat := (KL_fr w2053 g0 f2096 rfl h2059)
            have h2145 : KL T H2091 r0 (xwf e d) (v2050 + 1).toNat := by
              rw [show (v2050 + 1).toNat = (v2050).toNat + 1 by omega]
              exact KL_n (by rw [xwf_v (by omega)]; omega) h2144
            refine wp_of e242 c242_64 (rw_iinc (pc' := 67) (z := v2050) (L' := [(1, vI (v2050 + 1)), (0, .ref r0)]) rfl rfl rfl rfl ?_)
            refine wp_of e242 c242_67 (rw_goto (p1 := 15) (by decide) ?_)
            have k2146 : H2091 r0 29 = H2051 r0 29 := (f2096 r0 29 _ g0 rfl)
            have k2147 : wLM H2091 r0 = wLM H2051 r0 := (wLM_fr w2053 g0 f2096 rfl)
            exact wp_lc (ks := [1, 0]) (wl_c rfl (wl_c rfl wl_n)) rfl (by decide) (ih2049 _ (by omega) (v2050 + 1) H2091 w2095 f2100 ⟨by omega, by omega⟩ (by omega) (by omega) h2145 (by omega) (by omega) rfl)
    exact wp_lc (ks := [1, 0]) (wl_c rfl (wl_c rfl wl_n)) rfl (by decide) (lp2047 _ 0 H1560 w1562 wfr.rf ⟨by decide, by decide⟩ (by omega) (by omega) h1565 (by omega) (by show H1560 r0 29 = (0 : Int); omega) rfl)
  · have h2148 : KNB T H r0 e d (xlots d).toNat := (KNN_28 hKNN_r0 (by omega)).2
    exact wp_return e242 c242_7 rfl ⟨rfl, hW, f0, rfl, ⟨by omega, by omega, by omega, by omega, h2148⟩⟩
/-! StrikeAwakeModel.refusesWorlds(Z)I  -/
abbrev uq_241 (r0 : Nat) (a1 : Int) (e : xD) (d : xD) (T : wq_T) (H : wq_H) : Option Value → wq_T → wq_H → Prop := fun r T' H' => T = T' ∧ WT T H' ∧ wfr [(42, 28), (42, 29), (51, 999), (52, 999)] T H H' ∧ ∃ z : Int, some (vI z) = r ∧ (0 ≤ z ∧ z ≤ 6) ∧ (((z = 0) ∧ (z ≠ 0 ∨ a1 = 1) ∧ (z ≠ 0 ∨ wLM H' r0 ≤ 20000) ∧ (wKI H' r0 = 1) ∧ (z ≠ 0 ∨ H' r0 29 = 0 ∨ 0 < wLM H' r0) ∧ (a1 = 1) ∧ (xlots d ≤ 20000) ∧ KNN T H' r0 e d ∧ KNB T H' r0 e d (xlots d).toNat) ∨ ((1 ≤ z ∧ z ≤ 6) ∧ (z ≠ 0 ∨ a1 = 1) ∧ (z ≠ 0 ∨ wLM H' r0 ≤ 20000) ∧ (wKI H' r0 = 1) ∧ (z ≠ 0 ∨ H' r0 29 = 0 ∨ 0 < wLM H' r0) ∧ (a1 = 0 ∨ 20000 < xlots d) ∧ KNN T H' r0 e d))
set_option maxHeartbeats 4000000 in
theorem u_241 {kt : Nat → Option mc_E} {T : wq_T} {H : wq_H} {r0 : Nat} {a1 : Int} {e : xD} {d : xD} (hW : WT T H) (g0 : T.2.2.2 r0 = some 42) (i1 : 0 ≤ a1 ∧ a1 ≤ 1) (p0 : a1 = 0 ∨ H r0 3 ≠ -1) (p1 : wKI H r0 = 1) (p2 : XW d) (p3 : ∀ h : Nat, d 0 0 ≤ (h : Int) → h < 24 → e 13 h = 0) (p4 : XN d) (p5 : ∀ h : Nat, h < 24 → 0 ≤ e 13 h ∧ e 13 h ≤ 100) (hRB_r0 : RB T H r0 e d) (hKNN_r0 : KNN T H r0 e d) : wpc kt 7 241 [.ref r0, vI a1] T H (uq_241 r0 a1 e d T H) := by
  refine wp_enter e241 (Nat.le_of_ble_eq_true rfl) rfl ?_
  have f0 : wfr [(42, 28), (42, 29), (51, 999), (52, 999)] T H H := wfr.rf
  show wp _ _ 241 0 [(0, .ref r0), (1, vI a1)] [] _ H _
  have _lm := RB_lm hRB_r0
  refine wp_of e241 c241_0 (rw_iload_n (pc' := 1) (z := a1) rfl rfl ?_)
  refine wp_of e241 c241_1 (rw_if_ne (p1 := 6) (p2 := 4) (by decide) rfl ⟨Int.le_trans (by decide) i1.1, Int.le_trans i1.2 (by decide)⟩ (fun c1032 => ?_) (fun c1032 => ?_))
  · refine wp_of e241 c241_6 (rw_aload_n (pc' := 7) (v := .ref r0) rfl rfl rfl ?_)
    obtain ⟨r1033, q1034, g1035⟩ := (hW.opt g0 (t' := 54) (n := 33) (j := 3) (p := 0) (q := 0) rfl (by decide) rfl).resolve_left (by omega)
    refine wp_of e241 c241_7 (xc_V (pc' := 10) (r := r0) (as := []) (st := []) (lm_9_376) rfl rfl (Nat.le_of_ble_eq_true rfl) hW g0 sh_42 (by decide) rfl (by decide) (s_220 hW g0 q1034 g1035) (fun R1036 T1037 H1038 p1039 => ?_))
    obtain ⟨e1040, e1042, z1044, e1041, b1045, p1043⟩ := p1039
    subst e1040
    subst e1041
    subst e1042
    show wp _ _ 241 10 [(0, .ref r0), (1, vI a1)] [vL z1044] _ H _
    refine wp_of e241 c241_10 (rw_ldc2 (pc' := 13) (z := 20000) rfl rfl rfl ?_)
    refine wp_of e241 c241_13 (rw_lcmp (pc' := 14) rfl ⟨Int.le_trans (by decide) b1045.1, Int.le_trans b1045.2 (by decide)⟩ ⟨by decide, by decide⟩ ?_)
    have b1046 := wq_cmp_b z1044 20000
    refine wp_of e241 c241_14 (rw_if_le (p1 := 19) (p2 := 17) (by decide) rfl ⟨by omega, by omega⟩ (fun c1047 => ?_) (fun c1047 => ?_))
    · refine wp_of e241 c241_19 (rw_aload_n (pc' := 20) (v := .ref r0) rfl rfl rfl ?_)
      refine wp_of e241 c241_20 (xc_V (pc' := 23) (r := r0) (as := []) (st := []) (lm_9_430) rfl rfl (Nat.le_of_ble_eq_true rfl) hW g0 sh_42 (by decide) rfl (by decide) (u_242 (e := e) (d := d) hW g0 q1034 g1035 (by omega) (by omega) (by assumption) (by assumption) (by assumption) (by assumption) hRB_r0 hKNN_r0) (fun R1048 T1049 H1050 p1051 => ?_))
      obtain ⟨e1052, w1054, f1055, e1053, p1056⟩ := p1051
      subst e1052
      subst e1053
      obtain ⟨a1057, a1058, a1059, a1060, a1061⟩ := p1056
      have f1062 := f0.tr f1055 rfl
      show wp _ _ 241 23 [(0, .ref r0), (1, vI a1)] [] _ H1050 _
      refine wp_of e241 c241_23 (rw_iconst (pc' := 24) rfl ?_)
      have h1063 : KNN T H1050 r0 e d := Or.inr ⟨by omega, a1061⟩
      have k1064 : wLM H1050 r0 = wLM H r0 := (wLM_fr hW g0 f1055 rfl)
      exact wp_ireturn e241 c241_24 rfl ⟨rfl, w1054, f1062, 0, rfl, ⟨by decide, by decide⟩, (Or.inl ⟨by omega, by omega, by omega, by omega, by omega, by omega, by omega, h1063, a1061⟩)⟩
    · refine wp_of e241 c241_17 (rw_iconst (pc' := 18) rfl ?_)
      exact wp_ireturn e241 c241_18 rfl ⟨rfl, hW, f0, 3, rfl, ⟨by decide, by decide⟩, (Or.inr ⟨by omega, by omega, by omega, by omega, by omega, by omega, hKNN_r0⟩)⟩
  · refine wp_of e241 c241_4 (rw_iconst (pc' := 5) rfl ?_)
    exact wp_ireturn e241 c241_5 rfl ⟨rfl, hW, f0, 1, rfl, ⟨by decide, by decide⟩, (Or.inr ⟨by omega, by omega, by omega, by omega, by omega, by omega, hKNN_r0⟩)⟩
/-! StrikeAwakeModel.refusesSome(Z)I  -/
abbrev uq_253 (r0 : Nat) (a1 : Int) (e : xD) (d : xD) (T : wq_T) (H : wq_H) : Option Value → wq_T → wq_H → Prop := fun r T' H' => T = T' ∧ WT T H' ∧ wfr [(42, 28), (42, 29), (51, 999), (52, 999)] T H H' ∧ ∃ z : Int, some (vI z) = r ∧ (0 ≤ z ∧ z ≤ 6) ∧ (((z = 0) ∧ (z ≠ 0 ∨ a1 = 1) ∧ (z ≠ 0 ∨ wLM H' r0 ≤ 20000) ∧ (wKI H' r0 = 1) ∧ (z ≠ 0 ∨ (0 < H' r0 29 ∧ 0 < wLM H' r0)) ∧ (a1 = 1) ∧ (xlots d ≤ 20000) ∧ (0 < xcn (xwf e d) (xlots d).toNat) ∧ KNN T H' r0 e d ∧ KNB T H' r0 e d (xlots d).toNat) ∨ ((1 ≤ z ∧ z ≤ 6) ∧ (z ≠ 0 ∨ a1 = 1) ∧ (z ≠ 0 ∨ wLM H' r0 ≤ 20000) ∧ (wKI H' r0 = 1) ∧ (z ≠ 0 ∨ (0 < H' r0 29 ∧ 0 < wLM H' r0)) ∧ (a1 = 0 ∨ 20000 < xlots d ∨ xcn (xwf e d) (xlots d).toNat ≤ 0) ∧ KNN T H' r0 e d))
set_option maxHeartbeats 4000000 in
theorem u_253 {kt : Nat → Option mc_E} {T : wq_T} {H : wq_H} {r0 : Nat} {a1 : Int} {e : xD} {d : xD} (hW : WT T H) (g0 : T.2.2.2 r0 = some 42) (i1 : 0 ≤ a1 ∧ a1 ≤ 1) (p0 : a1 = 0 ∨ H r0 3 ≠ -1) (p1 : wKI H r0 = 1) (p2 : XW d) (p3 : ∀ h : Nat, d 0 0 ≤ (h : Int) → h < 24 → e 13 h = 0) (p4 : XN d) (p5 : ∀ h : Nat, h < 24 → 0 ≤ e 13 h ∧ e 13 h ≤ 100) (hRB_r0 : RB T H r0 e d) (hKNN_r0 : KNN T H r0 e d) : wpc kt 8 253 [.ref r0, vI a1] T H (uq_253 r0 a1 e d T H) := by
  refine wp_enter e253 (Nat.le_of_ble_eq_true rfl) rfl ?_
  have f0 : wfr [(42, 28), (42, 29), (51, 999), (52, 999)] T H H := wfr.rf
  show wp _ _ 253 0 [(0, .ref r0), (1, vI a1)] [] _ H _
  have _lm := RB_lm hRB_r0
  refine wp_of e253 c253_0 (rw_aload_n (pc' := 1) (v := .ref r0) rfl rfl rfl ?_)
  refine wp_of e253 c253_1 (rw_iload_n (pc' := 2) (z := a1) rfl rfl ?_)
  refine wp_of e253 c253_2 (xc_V (pc' := 5) (r := r0) (as := [vI a1]) (st := []) (lm_9_433) rfl rfl (Nat.le_of_ble_eq_true rfl) hW g0 sh_42 (by decide) rfl (by decide) (u_241 (e := e) (d := d) hW g0 ⟨i1.1, i1.2⟩ (by omega) (by omega) (by assumption) (by assumption) (by assumption) (by assumption) hRB_r0 hKNN_r0) (fun R1035 T1036 H1037 p1038 => ?_))
  obtain ⟨e1039, w1041, f1042, z1043, e1040, b1044, p1045⟩ := p1038
  subst e1039
  subst e1040
  rcases p1045 with ⟨a1046, a1047, a1048, a1049, a1050, a1051, a1052, a1053, a1054⟩ | ⟨a1055, a1056, a1057, a1058, a1059, a1060, a1061⟩
  · have f1062 := f0.tr f1042 rfl
    show wp _ _ 253 5 [(0, .ref r0), (1, vI a1)] [vI z1043] _ H1037 _
    refine wp_of e253 c253_5 (rw_istore_n (pc' := 6) (z := z1043) (L' := [(2, vI z1043), (0, .ref r0), (1, vI a1)]) rfl rfl rfl ?_)
    have _kb := (a1054).1
    refine wp_of e253 c253_6 (rw_iload_n (pc' := 7) (z := z1043) rfl rfl ?_)
    refine wp_of e253 c253_7 (rw_if_ne (p1 := 22) (p2 := 10) (by decide) rfl ⟨Int.le_trans (by decide) b1044.1, Int.le_trans b1044.2 (by decide)⟩ (fun c1063 => ?_) (fun c1063 => ?_))
    · exfalso
      omega
    · refine wp_of e253 c253_10 (rw_aload_n (pc' := 11) (v := .ref r0) rfl rfl rfl ?_)
      refine wp_of e253 c253_11 (xg_I (pc' := 14) lf_9_422 w1041 g0 sh_42 (by decide) (by decide) ty_42_29 rfl rfl (fun b1064 b1065 => ?_))
      refine wp_of e253 c253_14 (rw_if_ne (p1 := 22) (p2 := 17) (by decide) rfl ⟨Int.le_trans (by decide) b1064, Int.le_trans b1065 (by decide)⟩ (fun c1066 => ?_) (fun c1066 => ?_))
      · refine wp_of e253 c253_22 (rw_iload_n (pc' := 23) (z := z1043) rfl rfl ?_)
        have k1067 : wLM H1037 r0 = wLM H r0 := (wLM_fr hW g0 f1042 rfl)
        exact wp_ireturn e253 c253_23 rfl ⟨rfl, w1041, f1062, z1043, rfl, ⟨b1044.1, b1044.2⟩, (Or.inl ⟨by omega, by omega, by omega, by omega, by omega, by omega, by omega, by omega, a1053, a1054⟩)⟩
      · refine wp_of e253 c253_17 (rw_bipush (pc' := 19) (z := 6) rfl (by decide) ?_)
        refine wp_of e253 c253_19 (rw_goto (p1 := 23) (by decide) ?_)
        have k1068 : wLM H1037 r0 = wLM H r0 := (wLM_fr hW g0 f1042 rfl)
        exact wp_ireturn e253 c253_23 rfl ⟨rfl, w1041, f1062, 6, rfl, ⟨by decide, by decide⟩, (Or.inr ⟨by omega, by omega, by omega, by omega, by omega, by omega, a1053⟩)⟩
  · have f1069 := f0.tr f1042 rfl
    show wp _ _ 253 5 [(0, .ref r0), (1, vI a1)] [vI z1043] _ H1037 _
    refine wp_of e253 c253_5 (rw_istore_n (pc' := 6) (z := z1043) (L' := [(2, vI z1043), (0, .ref r0), (1, vI a1)]) rfl rfl rfl ?_)
    refine wp_of e253 c253_6 (rw_iload_n (pc' := 7) (z := z1043) rfl rfl ?_)
    refine wp_of e253 c253_7 (rw_if_ne (p1 := 22) (p2 := 10) (by decide) rfl ⟨Int.le_trans (by decide) b1044.1, Int.le_trans b1044.2 (by decide)⟩ (fun c1070 => ?_) (fun c1070 => ?_))
    · refine wp_of e253 c253_22 (rw_iload_n (pc' := 23) (z := z1043) rfl rfl ?_)
      have k1071 : wLM H1037 r0 = wLM H r0 := (wLM_fr hW g0 f1042 rfl)
      exact wp_ireturn e253 c253_23 rfl ⟨rfl, w1041, f1069, z1043, rfl, ⟨b1044.1, b1044.2⟩, (Or.inr ⟨by omega, by omega, by omega, by omega, by omega, by omega, a1061⟩)⟩
    · exfalso
      omega
/-! StrikeAwakeModel.refusesAsking(Z)I  -/
abbrev uq_267 (r0 : Nat) (a1 : Int) (e : xD) (d : xD) (T : wq_T) (H : wq_H) : Option Value → wq_T → wq_H → Prop := fun r T' H' => T = T' ∧ WT T H' ∧ wfr [(42, 28), (42, 29), (51, 999), (52, 999)] T H H' ∧ ∃ z : Int, some (vI z) = r ∧ (0 ≤ z ∧ z ≤ 6) ∧ (((z ≠ 0 ∨ a1 = 1) ∧ (z ≠ 0 ∨ wLM H' r0 ≤ 20000) ∧ (wKI H' r0 = 1) ∧ (z ≠ 0 ∨ (0 < H' r0 29 ∧ 0 < wLM H' r0)) ∧ KNN T H' r0 e d))
set_option maxHeartbeats 4000000 in
theorem u_267 {kt : Nat → Option mc_E} {T : wq_T} {H : wq_H} {r0 : Nat} {a1 : Int} {e : xD} {d : xD} (hW : WT T H) (g0 : T.2.2.2 r0 = some 42) (i1 : 0 ≤ a1 ∧ a1 ≤ 1) (p0 : a1 = 0 ∨ H r0 3 ≠ -1) (p1 : wKI H r0 = 1) (p2 : XW d) (p3 : ∀ h : Nat, d 0 0 ≤ (h : Int) → h < 24 → e 13 h = 0) (p4 : XN d) (p5 : ∀ h : Nat, h < 24 → 0 ≤ e 13 h ∧ e 13 h ≤ 100) (hRB_r0 : RB T H r0 e d) (hKNN_r0 : KNN T H r0 e d) : wpc kt 9 267 [.ref r0, vI a1] T H (uq_267 r0 a1 e d T H) := by
  refine wp_enter e267 (Nat.le_of_ble_eq_true rfl) rfl ?_
  have f0 : wfr [(42, 28), (42, 29), (51, 999), (52, 999)] T H H := wfr.rf
  show wp _ _ 267 0 [(0, .ref r0), (1, vI a1)] [] _ H _
  refine wp_of e267 c267_0 (rw_aload_n (pc' := 1) (v := .ref r0) rfl rfl rfl ?_)
  refine wp_of e267 c267_1 (rw_iload_n (pc' := 2) (z := a1) rfl rfl ?_)
  refine wp_of e267 c267_2 (xc_V (pc' := 5) (r := r0) (as := [vI a1]) (st := []) (lm_9_447) rfl rfl (Nat.le_of_ble_eq_true rfl) hW g0 sh_42 (by decide) rfl (by decide) (u_253 (e := e) (d := d) hW g0 ⟨i1.1, i1.2⟩ (by omega) (by omega) (by assumption) (by assumption) (by assumption) (by assumption) hRB_r0 hKNN_r0) (fun R1036 T1037 H1038 p1039 => ?_))
  obtain ⟨e1040, w1042, f1043, z1044, e1041, b1045, p1046⟩ := p1039
  subst e1040
  subst e1041
  rcases p1046 with ⟨a1047, a1048, a1049, a1050, a1051, a1052, a1053, a1054, a1055, a1056⟩ | ⟨a1057, a1058, a1059, a1060, a1061, a1062, a1063⟩
  · have f1064 := f0.tr f1043 rfl
    show wp _ _ 267 5 [(0, .ref r0), (1, vI a1)] [vI z1044] _ H1038 _
    refine wp_of e267 c267_5 (rw_istore_n (pc' := 6) (z := z1044) (L' := [(2, vI z1044), (0, .ref r0), (1, vI a1)]) rfl rfl rfl ?_)
    refine wp_of e267 c267_6 (rw_iload_n (pc' := 7) (z := z1044) rfl rfl ?_)
    refine wp_of e267 c267_7 (rw_if_ne (p1 := 24) (p2 := 10) (by decide) rfl ⟨Int.le_trans (by decide) b1045.1, Int.le_trans b1045.2 (by decide)⟩ (fun c1065 => ?_) (fun c1065 => ?_))
    · exfalso
      omega
    · refine wp_of e267 c267_10 (rw_aload_n (pc' := 11) (v := .ref r0) rfl rfl rfl ?_)
      refine wp_of e267 c267_11 (xg_I (pc' := 14) lf_9_422 w1042 g0 sh_42 (by decide) (by decide) ty_42_29 rfl rfl (fun b1066 b1067 => ?_))
      refine wp_of e267 c267_14 (rw_sipush (pc' := 17) (z := 400) rfl (by decide) ?_)
      refine wp_of e267 c267_17 (rw_icmp_le (p1 := 24) (p2 := 20) (by decide) rfl ⟨Int.le_trans (by decide) b1066, Int.le_trans b1067 (by decide)⟩ ⟨by decide, by decide⟩ (fun c1068 => ?_) (fun c1068 => ?_))
      · refine wp_of e267 c267_24 (rw_iload_n (pc' := 25) (z := z1044) rfl rfl ?_)
        have k1069 : wLM H1038 r0 = wLM H r0 := (wLM_fr hW g0 f1043 rfl)
        exact wp_ireturn e267 c267_25 rfl ⟨rfl, w1042, f1064, z1044, rfl, ⟨b1045.1, b1045.2⟩, ⟨by omega, by omega, by omega, by omega, a1055⟩⟩
      · refine wp_of e267 c267_20 (rw_iconst (pc' := 21) rfl ?_)
        refine wp_of e267 c267_21 (rw_goto (p1 := 25) (by decide) ?_)
        have k1070 : wLM H1038 r0 = wLM H r0 := (wLM_fr hW g0 f1043 rfl)
        exact wp_ireturn e267 c267_25 rfl ⟨rfl, w1042, f1064, 3, rfl, ⟨by decide, by decide⟩, ⟨by omega, by omega, by omega, by omega, a1055⟩⟩
  · have f1071 := f0.tr f1043 rfl
    show wp _ _ 267 5 [(0, .ref r0), (1, vI a1)] [vI z1044] _ H1038 _
    refine wp_of e267 c267_5 (rw_istore_n (pc' := 6) (z := z1044) (L' := [(2, vI z1044), (0, .ref r0), (1, vI a1)]) rfl rfl rfl ?_)
    refine wp_of e267 c267_6 (rw_iload_n (pc' := 7) (z := z1044) rfl rfl ?_)
    refine wp_of e267 c267_7 (rw_if_ne (p1 := 24) (p2 := 10) (by decide) rfl ⟨Int.le_trans (by decide) b1045.1, Int.le_trans b1045.2 (by decide)⟩ (fun c1072 => ?_) (fun c1072 => ?_))
    · refine wp_of e267 c267_24 (rw_iload_n (pc' := 25) (z := z1044) rfl rfl ?_)
      have k1073 : wLM H1038 r0 = wLM H r0 := (wLM_fr hW g0 f1043 rfl)
      exact wp_ireturn e267 c267_25 rfl ⟨rfl, w1042, f1071, z1044, rfl, ⟨b1045.1, b1045.2⟩, ⟨by omega, by omega, by omega, by omega, a1063⟩⟩
    · exfalso
      omega
/-! StrikeAwakeModel.lotWeight()J  -/
abbrev uq_248 (r0 : Nat) (pp : Nat) (e : xD) (d : xD) (g : Nat → Int) (T : wq_T) (H : wq_H) : Option Value → wq_T → wq_H → Prop := fun r T' H' => T = T' ∧ H = H' ∧ ∃ z : Int, some (vL z) = r ∧ (1 ≤ z ∧ z ≤ 1000000) ∧ (((z = xlw d g (d 0 3).toNat)))
set_option maxHeartbeats 4000000 in
theorem u_248 {kt : Nat → Option mc_E} {T : wq_T} {H : wq_H} {r0 : Nat} {pp : Nat} {e : xD} {d : xD} {g : Nat → Int} (hW : WT T H) (g0 : T.2.2.2 r0 = some 42) (qpp : H r0 3 = (pp : Int)) (gpp : T.2.2.2 pp = some 54) (p0 : XW d) (p1 : SL d g) (hRB_r0 : RB T H r0 e d) (hLQ27_r0 : LQ27 T H r0 0 (d 0 3) g) : wpc kt 2 248 [.ref r0] T H (uq_248 r0 pp e d g T H) := by
  refine wp_enter e248 (Nat.le_of_ble_eq_true rfl) rfl ?_
  show wp _ _ 248 0 [(0, .ref r0)] [] _ H _
  have b1189 : 0 ≤ H pp 3 ∧ H pp 3 ≤ 6 := hW.box gpp (n := 27) rfl (by decide) rfl
  have _xw := p0
  have _xc := _xw.2.1
  unfold XC at _xc
  have _n3 : H r0 3 ≠ -1 := by omega
  have _k := RP_k (RB_at hRB_r0 qpp)
  refine wp_of e248 c248_0 (rw_lconst (pc' := 1) (z := 1) rfl rfl ?_)
  refine wp_of e248 c248_1 (rw_lstore_n (pc' := 2) (z := 1) (L' := [(1, vL 1), (0, .ref r0)]) rfl rfl rfl ?_)
  refine wp_of e248 c248_2 (rw_iconst (pc' := 3) rfl ?_)
  refine wp_of e248 c248_3 (rw_istore_n (pc' := 4) (z := 0) (L' := [(3, vI 0), (1, vL 1), (0, .ref r0)]) rfl rfl rfl ?_)
  have lp1356 : ∀ (n1357 : Nat) (v1359 : Int) (v1360 : Int), (0 ≤ v1359 ∧ v1359 ≤ 6) → (1 ≤ v1360 ∧ v1360 ≤ 1000000) → (v1359 ≤ d 0 3) → (v1360 = xlw d g (v1359).toNat) → (6 - v1359).toNat = n1357 → wp kt 1 248 4 [(3, vI v1359), (1, vL v1360), (0, .ref r0)] [] T H (uq_248 r0 pp e d g T H) := by
    intro n1357
    induction n1357 using Nat.strongRecOn with
    | _ n1357 ih1358 =>
      intro v1359 v1360 b1363 b1364 x1366 x1367 m1365
      refine wp_of e248 c248_4 (rw_iload_n (pc' := 5) (z := v1359) rfl rfl ?_)
      refine wp_of e248 c248_5 (rw_aload_n (pc' := 6) (v := .ref r0) rfl rfl rfl ?_)
      refine wp_of e248 c248_6 (xg_K (pc' := 9) lf_9_337 hW g0 sh_42 (by decide) (by decide) rfl qpp rfl ?_)
      refine wp_of e248 c248_9 (xg_I (pc' := 12) lf_9_188 hW gpp sh_54 (by decide) (by decide) ty_54_3 rfl rfl (fun b1368 b1369 => ?_))
      refine wp_of e248 c248_12 (rw_icmp_ge (p1 := 36) (p2 := 15) (by decide) rfl ⟨Int.le_trans (by decide) b1363.1, Int.le_trans b1363.2 (by decide)⟩ ⟨Int.le_trans (by decide) b1368, Int.le_trans b1369 (by decide)⟩ (fun c1370 => ?_) (fun c1370 => ?_))
      · refine wp_of e248 c248_36 (rw_lload_n (pc' := 37) (z := v1360) rfl rfl ?_)
        exact wp_lreturn e248 c248_37 rfl ⟨rfl, rfl, v1360, rfl, ⟨b1364.1, b1364.2⟩, (by rw [show (d 0 3).toNat = (v1359).toNat by omega]; assumption)⟩
      · refine wp_of e248 c248_15 (rw_lload_n (pc' := 16) (z := v1360) rfl rfl ?_)
        refine wp_of e248 c248_16 (rw_aload_n (pc' := 17) (v := .ref r0) rfl rfl rfl ?_)
        refine wp_of e248 c248_17 (rw_iload_n (pc' := 18) (z := v1359) rfl rfl ?_)
        refine wp_of e248 c248_18 (rw_aload_n (pc' := 19) (v := .ref r0) rfl rfl rfl ?_)
        refine wp_of e248 c248_19 (xg_R (pc' := 22) lf_9_39 hW g0 sh_42 (by decide) (by decide) ty_42_27 rfl rfl (fun r1371 q1372 g1373 => ?_))
        refine wp_of e248 c248_22 (rw_iload_n (pc' := 23) (z := v1359) rfl rfl ?_)
        refine wp_of e248 c248_23 (xa_I (so := 0) (pc' := 24) hW g1373 sh_51 (by decide) (ty_51 _) (b1363.1) (by omega) rfl (fun b1374 b1375 => ?_))
        have := LR_at hLQ27_r0 q1372 (k := (v1359.toNat)) (by omega) (by omega)
        have _s := p1 (v1359).toNat (by omega)
        refine wp_of e248 c248_24 (xc_V (pc' := 27) (r := r0) (as := [vI v1359, vI (H r1371 (v1359.toNat))]) (st := [vL v1360]) (lm_9_370) rfl rfl (Nat.le_of_ble_eq_true rfl) hW g0 sh_42 (by decide) rfl (by decide) (u_216 (e := e) (d := d) hW g0 ⟨b1363.1, by omega⟩ ⟨b1374, b1375⟩ qpp gpp (by omega) (by omega) hRB_r0) (fun R1376 T1377 H1378 p1379 => ?_))
        obtain ⟨e1380, e1382, z1383, e1381, b1384, p1385⟩ := p1379
        subst e1380
        subst e1381
        subst e1382
        show wp _ _ 248 27 [(3, vI v1359), (1, vL v1360), (0, .ref r0)] [vI z1383, vL v1360] _ H _
        have _we : z1383 = xwe (d 6 (v1359).toNat) (xpt d g (v1359).toNat).1 := by
          unfold xpt
          rw [show g (v1359).toNat = H r1371 (v1359.toNat) by omega]
          exact xwe_e (by assumption)
        refine wp_of e248 c248_27 (rw_i2l (pc' := 28) rfl ⟨Int.le_trans (by decide) b1384.1, Int.le_trans b1384.2 (by decide)⟩ ?_)
        refine wp_of e248 c248_28 (rw_lmul (pc' := 29) rfl ?_)
        obtain ⟨v1387, e1388⟩ : ∃ x : Int, x = v1360 * z1383 := ⟨_, rfl⟩
        rw [← e1388]
        have b1389 : 0 ≤ v1387 ∧ v1387 ≤ 10000000 := by
          rw [e1388]
          exact wl_mul_b (a := 1000000) (b := 10) ⟨by omega, by omega⟩ ⟨by omega, by omega⟩
        have _q : v1387 = xlw d g (v1359 + 1).toNat := by
          rw [show (v1359 + 1).toNat = (v1359).toNat + 1 by omega]
          exact xlw_s (w := 0) (by omega) ‹v1360 = xlw d g (v1359).toNat› _we (by first | assumption | exact fun _ => by assumption)
        have _qb := @xlw_6 d g (v1359 + 1).toNat (by omega)
        refine wp_of e248 c248_29 (rw_lstore_n (pc' := 30) (z := v1387) (L' := [(1, vL v1387), (3, vI v1359), (0, .ref r0)]) rfl rfl rfl ?_)
        refine wp_of e248 c248_30 (rw_iinc (pc' := 33) (z := v1359) (L' := [(3, vI (v1359 + 1)), (1, vL v1387), (0, .ref r0)]) rfl rfl rfl rfl ?_)
        refine wp_of e248 c248_33 (rw_goto (p1 := 4) (by decide) ?_)
        exact wp_lc (ks := [3, 1, 0]) (wl_c rfl (wl_c rfl (wl_c rfl wl_n))) rfl (by decide) (ih1358 _ (by omega) (v1359 + 1) v1387 ⟨by omega, by omega⟩ ⟨by omega, by omega⟩ (by omega) (_q) rfl)
  exact wp_lc (ks := [3, 1, 0]) (wl_c rfl (wl_c rfl (wl_c rfl wl_n))) rfl (by decide) (lp1356 _ 0 1 ⟨by decide, by decide⟩ ⟨by decide, by decide⟩ (by omega) (rfl) rfl)
end
section
/-! StrikeAwakeModel.findLikeliest()J  -/
abbrev uq_257 (r0 : Nat) (pp : Nat) (e : xD) (d : xD) (T : wq_T) (H : wq_H) : Option Value → wq_T → wq_H → Prop := fun r T' H' => T = T' ∧ WT T H' ∧ wfr [(51, 999)] T H H' ∧ ∃ z : Int, some (vL z) = r ∧ (0 ≤ z ∧ z ≤ 1000000) ∧ (((z = (xbW e d (xlots d).toNat).1) ∧ LQ27 T H' r0 0 (d 0 3) (xlot d (xbW e d (xlots d).toNat).2)))
set_option maxHeartbeats 4000000 in
theorem u_257 {kt : Nat → Option mc_E} {T : wq_T} {H : wq_H} {r0 : Nat} {pp : Nat} {e : xD} {d : xD} (hW : WT T H) (g0 : T.2.2.2 r0 = some 42) (qpp : H r0 3 = (pp : Int)) (gpp : T.2.2.2 pp = some 54) (p0 : XW d) (p1 : 0 < xcn (xwf e d) (xlots d).toNat) (p2 : xlots d ≤ 20000) (hRB_r0 : RB T H r0 e d) (hKNB_r0 : KNB T H r0 e d (xlots d).toNat) : wpc kt 3 257 [.ref r0] T H (uq_257 r0 pp e d T H) := by
  refine wp_enter e257 (Nat.le_of_ble_eq_true rfl) rfl ?_
  have f0 : wfr [(51, 999)] T H H := wfr.rf
  show wp _ _ 257 0 [(0, .ref r0)] [] _ H _
  have b1463 : 0 ≤ H r0 29 ∧ H r0 29 ≤ 20000 := hW.box g0 (n := 33) rfl (by decide) rfl
  have h1464 : KL T H r0 (xwf e d) (xlots d).toNat := hKNB_r0.2
  have _xw := (by assumption : XW d)
  have _xc := _xw.2.1
  unfold XC at _xc
  have _n3 : H r0 3 ≠ -1 := by omega
  have _k := RP_k (RB_at hRB_r0 qpp)
  have _kb := hKNB_r0.1
  have _lm := RB_lm hRB_r0
  have _nb := xcn_b (f := xwf e d) (xlots d).toNat
  have _lx := xcn_b (f := xwf e d) (xlots d).toNat
  have _pl : 0 < xlots d := by omega
  refine wp_of e257 c257_0 (rw_iconst (pc' := 1) rfl ?_)
  refine wp_of e257 c257_1 (rw_istore_n (pc' := 2) (z := -1) (L' := [(1, vI (-1)), (0, .ref r0)]) rfl rfl rfl ?_)
  refine wp_of e257 c257_2 (rw_lconst (pc' := 3) (z := 0) rfl rfl ?_)
  refine wp_of e257 c257_3 (rw_lstore_n (pc' := 4) (z := 0) (L' := [(2, vL 0), (1, vI (-1)), (0, .ref r0)]) rfl rfl rfl ?_)
  refine wp_of e257 c257_4 (rw_iconst (pc' := 5) rfl ?_)
  refine wp_of e257 c257_5 (rw_istore (pc' := 7) (z := 0) (L' := [(4, vI 0), (2, vL 0), (1, vI (-1)), (0, .ref r0)]) rfl rfl rfl ?_)
  have lp1857 : ∀ (n1858 : Nat) (v1860 : Int) (v1861 : Int) (v1862 : Int) (H1863 : wq_H) (u1864 : Nat), WT T H1863 → wfr [(51, 999)] T H H1863 → (0 ≤ v1860 ∧ v1860 ≤ 20000) → (0 ≤ v1861 ∧ v1861 ≤ 1000000) → ((-1) ≤ v1862 ∧ v1862 ≤ 19999) → KL T H1863 r0 (xwf e d) (xlots d).toNat → (v1860 ≤ H1863 r0 29) → (v1862 < v1860 ∨ v1862 = -1) → (u1864 ≤ (xlots d).toNat) → (xcn (xwf e d) u1864 = v1860) → (v1861 = (xbW e d u1864).1) → ((v1860 = 0 ∧ v1862 = -1) ∨ (xcn (xwf e d) (xbW e d u1864).2.toNat = v1862 ∧ 0 ≤ v1862)) → (20000 - v1860).toNat = n1858 → wp kt 2 257 7 [(4, vI v1860), (2, vL v1861), (1, vI v1862), (0, .ref r0)] [] T H1863 (uq_257 r0 pp e d T H) := by
    intro n1858
    induction n1858 using Nat.strongRecOn with
    | _ n1858 ih1859 =>
      intro v1860 v1861 v1862 H1863 u1864 w1865 f1866 b1867 b1868 b1869 h1871 x1872 x1873 x1874 x1875 x1876 x1877 m1870
      have f1878 := f0.tr f1866 rfl
      have k1879 : H1863 r0 29 = H r0 29 := (f1866 r0 29 _ g0 rfl)
      refine wp_of e257 c257_7 (rw_iload (pc' := 9) (z := v1860) rfl rfl ?_)
      refine wp_of e257 c257_9 (rw_aload_n (pc' := 10) (v := .ref r0) rfl rfl rfl ?_)
      refine wp_of e257 c257_10 (xg_I (pc' := 13) lf_9_422 w1865 g0 sh_42 (by decide) (by decide) ty_42_29 rfl rfl (fun b1880 b1881 => ?_))
      refine wp_of e257 c257_13 (rw_icmp_ge (p1 := 53) (p2 := 16) (by decide) rfl ⟨Int.le_trans (by decide) b1867.1, Int.le_trans b1867.2 (by decide)⟩ ⟨Int.le_trans (by decide) b1880, Int.le_trans b1881 (by decide)⟩ (fun c1882 => ?_) (fun c1882 => ?_))
      · refine wp_of e257 c257_53 (rw_aload_n (pc' := 54) (v := .ref r0) rfl rfl rfl ?_)
        refine wp_of e257 c257_54 (rw_aload_n (pc' := 55) (v := .ref r0) rfl rfl rfl ?_)
        refine wp_of e257 c257_55 (xg_R (pc' := 58) lf_9_42 w1865 g0 sh_42 (by decide) (by decide) ty_42_30 rfl rfl (fun r1883 q1884 g1885 => ?_))
        refine wp_of e257 c257_58 (rw_iload_n (pc' := 59) (z := v1862) rfl rfl ?_)
        have _xb := xbW_2 (d := d) (e := e) (by omega) (xlots d).toNat (by omega)
        have _bb := xbW_b (d := d) (e := e) (by omega) (xlots d).toNat
        have _eu : xbW e d (xlots d).toNat = xbW e d u1864 := wfd_end (by omega) (by omega)
        have _eu1 : (xbW e d (xlots d).toNat).1 = (xbW e d u1864).1 := by rw [_eu]
        have _kl := KL_at h1871 q1884 (n := (xbW e d (xlots d).toNat).2.toNat) (s := (v1862).toNat) (by omega) _xb.2.2 (by rw [_eu]; omega)
        refine wp_of e257 c257_59 (xa_I (so := 0) (pc' := 60) w1865 g1885 sh_52 (by decide) (ty_52 _) (by omega) (Int.lt_of_le_of_lt b1869.2 (by decide)) rfl (fun b1886 b1887 => ?_))
        have k1888 : H1863 r0 3 = H r0 3 := (f1866 r0 3 _ g0 rfl)
        have q1889 : H1863 r0 3 = (pp : Int) := k1888.trans qpp
        have k1890 : wLM H1863 r0 = wLM H r0 := (wLM_fr hW g0 f1866 rfl)
        have h1891 : RB T H1863 r0 e d := (RB_fr hW g0 f1866 rfl hRB_r0)
        refine wp_of e257 c257_60 (xc_V (pc' := 63) (r := r0) (as := [vI (H1863 r1883 (v1862.toNat))]) (st := []) (lm_9_425) rfl rfl (Nat.le_of_ble_eq_true rfl) w1865 g0 sh_42 (by decide) rfl (by decide) (u_243 (e := e) (d := d) w1865 g0 ⟨b1886, Int.le_trans b1887 (by decide)⟩ q1889 gpp (by omega) h1891) (fun R1892 T1893 H1894 p1895 => ?_))
        obtain ⟨e1896, w1898, f1899, e1897, p1900⟩ := p1895
        subst e1896
        subst e1897
        have f1902 := f1878.tr f1899 rfl
        show wp _ _ 257 63 [(4, vI v1860), (2, vL v1861), (1, vI v1862), (0, .ref r0)] [] _ H1894 _
        have h1903 : LQ27 T H1894 r0 0 (d 0 3) (xlot d (xbW e d (xlots d).toNat).2) := by rw [show (xbW e d (xlots d).toNat).2 = H1863 r1883 (v1862.toNat) by omega]; exact p1900
        refine wp_of e257 c257_63 (rw_lload_n (pc' := 64) (z := v1861) rfl rfl ?_)
        exact wp_lreturn e257 c257_64 rfl ⟨rfl, w1898, f1902, v1861, rfl, ⟨b1868.1, b1868.2⟩, ⟨by omega, h1903⟩⟩
      · obtain ⟨h9, _a, _b, _c, _e, _f⟩ := xcn_nx (f := xwf e d) (u := u1864) (xlots d).toNat (by omega) (by omega)
        have _n9 : xcn (xwf e d) (h9 + 1) = xcn (xwf e d) h9 + 1 := by
          show xcn (xwf e d) h9 + (if xwf e d h9 > 0 then 1 else 0) = _
          rw [if_pos _c]
        refine wp_of e257 c257_16 (rw_aload_n (pc' := 17) (v := .ref r0) rfl rfl rfl ?_)
        refine wp_of e257 c257_17 (rw_aload_n (pc' := 18) (v := .ref r0) rfl rfl rfl ?_)
        refine wp_of e257 c257_18 (xg_R (pc' := 21) lf_9_42 w1865 g0 sh_42 (by decide) (by decide) ty_42_30 rfl rfl (fun r1904 q1905 g1906 => ?_))
        refine wp_of e257 c257_21 (rw_iload (pc' := 23) (z := v1860) rfl rfl ?_)
        refine wp_of e257 c257_23 (xa_I (so := 0) (pc' := 24) w1865 g1906 sh_52 (by decide) (ty_52 _) (b1867.1) (by omega) rfl (fun b1907 b1908 => ?_))
        have _kl := KL_at h1871 q1905 (n := h9) (s := (v1860).toNat) (by omega) _c (by omega)
        have _t9 : H1863 r1904 (v1860.toNat) = ((h9 : Nat) : Int) := by omega
        have _slw : SL d (xlot d ((h9 : Nat) : Int)) := SL_lot _xw.1 (by omega) (by omega)
        have k1909 : H1863 r0 3 = H r0 3 := (f1866 r0 3 _ g0 rfl)
        have q1910 : H1863 r0 3 = (pp : Int) := k1909.trans qpp
        have k1911 : wLM H1863 r0 = wLM H r0 := (wLM_fr hW g0 f1866 rfl)
        have h1912 : RB T H1863 r0 e d := (RB_fr hW g0 f1866 rfl hRB_r0)
        refine wp_of e257 c257_24 (xc_V (pc' := 27) (r := r0) (as := [vI (H1863 r1904 (v1860.toNat))]) (st := []) (lm_9_425) rfl rfl (Nat.le_of_ble_eq_true rfl) w1865 g0 sh_42 (by decide) rfl (by decide) (u_243 (e := e) (d := d) w1865 g0 ⟨b1907, Int.le_trans b1908 (by decide)⟩ q1910 gpp (by omega) h1912) (fun R1913 T1914 H1915 p1916 => ?_))
        obtain ⟨e1917, w1919, f1920, e1918, p1921⟩ := p1916
        subst e1917
        subst e1918
        have f1923 := f1878.tr f1920 rfl
        have f1924 := f1866.tr f1920 rfl
        show wp _ _ 257 27 [(4, vI v1860), (2, vL v1861), (1, vI v1862), (0, .ref r0)] [] _ H1915 _
        have h1925 : LQ27 T H1915 r0 0 (d 0 3) (xlot d ((h9 : Nat) : Int)) := by rw [← _t9]; exact p1921
        refine wp_of e257 c257_27 (rw_aload_n (pc' := 28) (v := .ref r0) rfl rfl rfl ?_)
        have k1926 : H1915 r0 3 = H1863 r0 3 := (f1920 r0 3 _ g0 rfl)
        have q1927 : H1915 r0 3 = (pp : Int) := k1926.trans q1910
        have h1928 : RB T H1915 r0 e d := (RB_fr w1865 g0 f1920 rfl h1912)
        refine wp_of e257 c257_28 (xc_V (pc' := 31) (r := r0) (as := []) (st := []) (lm_9_437) rfl rfl (Nat.le_of_ble_eq_true rfl) w1919 g0 sh_42 (by decide) rfl (by decide) (u_248 (e := e) (d := d) (g := ((xlot d ((h9 : Nat) : Int)))) w1919 g0 q1927 gpp (by assumption) (by assumption) h1928 h1925) (fun R1929 T1930 H1931 p1932 => ?_))
        obtain ⟨e1933, e1935, z1936, e1934, b1937, p1938⟩ := p1932
        subst e1933
        subst e1934
        subst e1935
        show wp _ _ 257 31 [(4, vI v1860), (2, vL v1861), (1, vI v1862), (0, .ref r0)] [vL z1936] _ H1915 _
        refine wp_of e257 c257_31 (rw_lload_n (pc' := 32) (z := v1861) rfl rfl ?_)
        refine wp_of e257 c257_32 (rw_lcmp (pc' := 33) rfl ⟨Int.le_trans (by decide) b1937.1, Int.le_trans b1937.2 (by decide)⟩ ⟨Int.le_trans (by decide) b1868.1, Int.le_trans b1868.2 (by decide)⟩ ?_)
        have b1940 := wq_cmp_b z1936 v1861
        refine wp_of e257 c257_33 (rw_if_gt (p1 := 39) (p2 := 36) (by decide) rfl ⟨by omega, by omega⟩ (fun c1941 => ?_) (fun c1941 => ?_))
        · refine wp_of e257 c257_39 (rw_aload_n (pc' := 40) (v := .ref r0) rfl rfl rfl ?_)
          refine wp_of e257 c257_40 (xc_V (pc' := 43) (r := r0) (as := []) (st := []) (lm_9_437) rfl rfl (Nat.le_of_ble_eq_true rfl) w1919 g0 sh_42 (by decide) rfl (by decide) (u_248 (e := e) (d := d) (g := ((xlot d ((h9 : Nat) : Int)))) w1919 g0 q1927 gpp (by assumption) (by assumption) h1928 h1925) (fun R1942 T1943 H1944 p1945 => ?_))
          obtain ⟨e1946, e1948, z1949, e1947, b1950, p1951⟩ := p1945
          subst e1946
          subst e1947
          subst e1948
          show wp _ _ 257 43 [(4, vI v1860), (2, vL v1861), (1, vI v1862), (0, .ref r0)] [vL z1949] _ H1915 _
          refine wp_of e257 c257_43 (rw_lstore_n (pc' := 44) (z := z1949) (L' := [(2, vL z1949), (4, vI v1860), (1, vI v1862), (0, .ref r0)]) rfl rfl rfl ?_)
          refine wp_of e257 c257_44 (rw_iload (pc' := 46) (z := v1860) rfl rfl ?_)
          refine wp_of e257 c257_46 (rw_istore_n (pc' := 47) (z := v1860) (L' := [(1, vI v1860), (2, vL z1949), (4, vI v1860), (0, .ref r0)]) rfl rfl rfl ?_)
          have _gp : xbW e d h9 = xbW e d u1864 := wfd_gap _a _f
          have _lW : xlW d h9 = xlw d (xlot d ((h9 : Nat) : Int)) (d 0 3).toNat := rfl
          have _z0 : xcn (xwf e d) u1864 ≤ 0 → (xbW e d u1864).1 = 0 := fun q => by rw [xbW_0 _ q]
          have _q : z1949 = (xbW e d (h9 + 1)).1 ∧ xcn (xwf e d) (xbW e d (h9 + 1)).2.toNat = v1860 ∧ 0 ≤ v1860 := by
            rw [xbW_y _c, _gp]
            first
            | (rw [if_pos (by omega)]; exact ⟨by show z1949 = xlW d h9; omega, by show xcn (xwf e d) (((h9 : Nat) : Int)).toNat = v1860; rw [Int.toNat_natCast]; omega, by omega⟩)
            | (rw [if_neg (by omega)]; exact ⟨by omega, by omega, by omega⟩)
          refine wp_of e257 c257_47 (rw_iinc (pc' := 50) (z := v1860) (L' := [(4, vI (v1860 + 1)), (1, vI v1860), (2, vL z1949), (0, .ref r0)]) rfl rfl rfl rfl ?_)
          refine wp_of e257 c257_50 (rw_goto (p1 := 7) (by decide) ?_)
          have k1953 : H1915 r0 29 = H1863 r0 29 := (f1920 r0 29 _ g0 rfl)
          have h1954 : KL T H1915 r0 (xwf e d) (xlots d).toNat := (KL_fr w1865 g0 f1920 rfl h1871)
          exact wp_lc (ks := [4, 1, 2, 0]) (wl_c rfl (wl_c rfl (wl_c rfl (wl_c rfl wl_n)))) rfl (by decide) (ih1859 _ (by omega) (v1860 + 1) z1949 v1860 H1915 ((h9 + 1)) w1919 f1924 ⟨by omega, by omega⟩ ⟨Int.le_trans (by decide) b1950.1, b1950.2⟩ ⟨Int.le_trans (by decide) b1867.1, by omega⟩ h1954 (by omega) (by omega) (by omega) (by omega) (_q.1) (Or.inr _q.2) rfl)
        · refine wp_of e257 c257_36 (rw_goto (p1 := 47) (by decide) ?_)
          have _gp : xbW e d h9 = xbW e d u1864 := wfd_gap _a _f
          have _lW : xlW d h9 = xlw d (xlot d ((h9 : Nat) : Int)) (d 0 3).toNat := rfl
          have _z0 : xcn (xwf e d) u1864 ≤ 0 → (xbW e d u1864).1 = 0 := fun q => by rw [xbW_0 _ q]
          have _q : v1861 = (xbW e d (h9 + 1)).1 ∧ xcn (xwf e d) (xbW e d (h9 + 1)).2.toNat = v1862 ∧ 0 ≤ v1862 := by
            rw [xbW_y _c, _gp]
            first
            | (rw [if_pos (by omega)]; exact ⟨by show v1861 = xlW d h9; omega, by show xcn (xwf e d) (((h9 : Nat) : Int)).toNat = v1862; rw [Int.toNat_natCast]; omega, by omega⟩)
            | (rw [if_neg (by omega)]; exact ⟨by omega, by omega, by omega⟩)
          refine wp_of e257 c257_47 (rw_iinc (pc' := 50) (z := v1860) (L' := [(4, vI (v1860 + 1)), (2, vL v1861), (1, vI v1862), (0, .ref r0)]) rfl rfl rfl rfl ?_)
          refine wp_of e257 c257_50 (rw_goto (p1 := 7) (by decide) ?_)
          have k1955 : H1915 r0 29 = H1863 r0 29 := (f1920 r0 29 _ g0 rfl)
          have h1956 : KL T H1915 r0 (xwf e d) (xlots d).toNat := (KL_fr w1865 g0 f1920 rfl h1871)
          exact wp_lc (ks := [4, 2, 1, 0]) (wl_c rfl (wl_c rfl (wl_c rfl (wl_c rfl wl_n)))) rfl (by decide) (ih1859 _ (by omega) (v1860 + 1) v1861 v1862 H1915 ((h9 + 1)) w1919 f1924 ⟨by omega, by omega⟩ ⟨b1868.1, b1868.2⟩ ⟨b1869.1, b1869.2⟩ h1956 (by omega) (by omega) (by omega) (by omega) (_q.1) (Or.inr _q.2) rfl)
  exact wp_lc (ks := [4, 2, 1, 0]) (wl_c rfl (wl_c rfl (wl_c rfl (wl_c rfl wl_n)))) rfl (by decide) (lp1857 _ 0 0 (-1) H 0 hW wfr.rf ⟨by decide, by decide⟩ ⟨by decide, by decide⟩ ⟨by decide, by decide⟩ h1464 (by omega) (by omega) (by omega) (rfl) (rfl) (Or.inl ⟨rfl, rfl⟩) rfl)
/-! StrikeAwakeModel.worlds()I  -/
abbrev uq_240 (r0 : Nat) (e : xD) (d : xD) (T : wq_T) (H : wq_H) : Option Value → wq_T → wq_H → Prop := fun r T' H' => T = T' ∧ WT T H' ∧ wfr [(42, 0), (42, 1), (42, 2), (42, 28), (42, 29), (51, 999), (52, 999)] T H H' ∧ ∃ z : Int, some (vI z) = r ∧ ((-2147483648) ≤ z ∧ z ≤ 2147483647) ∧ (((z = -1) ∧ (wKI H' r0 = 1) ∧ (H r0 3 = -1 ∨ 20000 < xlots d) ∧ KNN T H' r0 e d) ∨ ((wKI H' r0 = 1) ∧ (H r0 3 ≠ -1 ∧ xlots d ≤ 20000) ∧ (z = xcn (xwf e d) (xlots d).toNat) ∧ KNN T H' r0 e d))
set_option maxHeartbeats 4000000 in
theorem u_240 {kt : Nat → Option mc_E} {T : wq_T} {H : wq_H} {r0 : Nat} {e : xD} {d : xD} (hW : WT T H) (g0 : T.2.2.2 r0 = some 42) (p0 : wKI H r0 = 1) (p1 : XW d) (p2 : ∀ h : Nat, d 0 0 ≤ (h : Int) → h < 24 → e 13 h = 0) (p3 : XN d) (p4 : ∀ h : Nat, h < 24 → 0 ≤ e 13 h ∧ e 13 h ≤ 100) (hRB_r0 : RB T H r0 e d) (hKNN_r0 : KNN T H r0 e d) : wpc kt 8 240 [.ref r0] T H (uq_240 r0 e d T H) := by
  refine wp_enter e240 (Nat.le_of_ble_eq_true rfl) rfl ?_
  have f0 : wfr [(42, 0), (42, 1), (42, 2), (42, 28), (42, 29), (51, 999), (52, 999)] T H H := wfr.rf
  show wp _ _ 240 0 [(0, .ref r0)] [] _ H _
  have _b := RB_b hW hRB_r0
  have _nu := RB_n3 hRB_r0
  have _lm := RB_lm hRB_r0
  refine wp_of e240 c240_0 (rw_aload_n (pc' := 1) (v := .ref r0) rfl rfl rfl ?_)
  refine wp_of e240 c240_1 (rw_iconst (pc' := 2) rfl ?_)
  refine wp_of e240 c240_2 (xp_I (pc' := 5) lf_9_48 hW g0 sh_42 (by decide) (by decide) ty_42_0 rfl rfl (by decide) (by decide) ⟨by decide, by decide⟩ rfl (fun H1138 e1139 w1140 => ?_))
  have f1141 := f0.put' e1139 g0 rfl
  have k1142 : H1138 r0 0 = 0 := wq_u_s e1139
  refine wp_of e240 c240_5 (rw_aload_n (pc' := 6) (v := .ref r0) rfl rfl rfl ?_)
  refine wp_of e240 c240_6 (rw_aload_n (pc' := 7) (v := .ref r0) rfl rfl rfl ?_)
  have k1143 : H1138 r0 3 = H r0 3 := (wq_u_j e1139 rfl)
  refine wp_of e240 c240_7 (xg_O (pc' := 10) lf_9_337 w1140 g0 sh_42 (by decide) (by decide) ty_42_3 rfl rfl (fun q1145 => ?_) (fun r1144 q1145 g1146 => ?_))
  · refine wp_of e240 c240_10 (rw_ifnull_n (p1 := 17) (p2 := 13) (by decide) rfl ?_)
    refine wp_of e240 c240_17 (rw_iconst (pc' := 18) rfl ?_)
    have k1147 : wKI H1138 r0 = wKI H r0 := (wKI_fr hW g0 ((wfr.rf (l := [(42, 0)])).put' e1139 g0 rfl) rfl)
    have h1148 : RB T H1138 r0 e d := (RB_fr hW g0 ((wfr.rf (l := [(42, 0)])).put' e1139 g0 rfl) rfl hRB_r0)
    have h1149 : KNN T H1138 r0 e d := (KNN_fr hW g0 ((wfr.rf (l := [(42, 0)])).put' e1139 g0 rfl) rfl hKNN_r0)
    refine wp_of e240 c240_18 (xc_V (pc' := 21) (r := r0) (as := [vI 0]) (st := []) (lm_9_433) rfl rfl (Nat.le_of_ble_eq_true rfl) w1140 g0 sh_42 (by decide) rfl (by decide) (u_241 (e := e) (d := d) w1140 g0 ⟨by decide, by decide⟩ (by omega) (by omega) (by assumption) (by assumption) (by assumption) (by assumption) h1148 h1149) (fun R1150 T1151 H1152 p1153 => ?_))
    obtain ⟨e1154, w1156, f1157, z1158, e1155, b1159, p1160⟩ := p1153
    subst e1154
    subst e1155
    rcases p1160 with ⟨a1161, a1162, a1163, a1164, a1165, a1166, a1167, a1168, a1169⟩ | ⟨a1170, a1171, a1172, a1173, a1174, a1175, a1176⟩
    · exfalso
      omega
    · have f1177 := f1141.tr f1157 rfl
      show wp _ _ 240 21 [(0, .ref r0)] [vI z1158] _ H1152 _
      refine wp_of e240 c240_21 (rw_istore_n (pc' := 22) (z := z1158) (L' := [(1, vI z1158), (0, .ref r0)]) rfl rfl rfl ?_)
      refine wp_of e240 c240_22 (rw_iload_n (pc' := 23) (z := z1158) rfl rfl ?_)
      refine wp_of e240 c240_23 (rw_if_le (p1 := 34) (p2 := 26) (by decide) rfl ⟨Int.le_trans (by decide) b1159.1, Int.le_trans b1159.2 (by decide)⟩ (fun c1178 => ?_) (fun c1178 => ?_))
      · exfalso
        omega
      · refine wp_of e240 c240_26 (rw_aload_n (pc' := 27) (v := .ref r0) rfl rfl rfl ?_)
        refine wp_of e240 c240_27 (rw_iload_n (pc' := 28) (z := z1158) rfl rfl ?_)
        refine wp_of e240 c240_28 (xc_V (pc' := 31) (r := r0) (as := [vI z1158]) (st := []) (lm_9_54) rfl rfl (Nat.le_of_ble_eq_true rfl) w1156 g0 sh_42 (by decide) rfl (by decide) (u_170  w1156 g0 ⟨Int.le_trans (by decide) b1159.1, Int.le_trans b1159.2 (by decide)⟩) (fun R1179 T1180 H1181 p1182 => ?_))
        obtain ⟨e1183, w1185, f1186, z1187, e1184, b1188, p1189⟩ := p1182
        subst e1183
        subst e1184
        obtain ⟨a1190, a1191, a1192⟩ := p1189
        have f1193 := f1177.tr f1186 rfl
        show wp _ _ 240 31 [(1, vI z1158), (0, .ref r0)] [vI z1187] _ H1181 _
        refine wp_of e240 c240_31 (rw_goto (p1 := 42) (by decide) ?_)
        have k1194 : wKI H1181 r0 = wKI H1152 r0 := (wKI_fr w1156 g0 f1186 rfl)
        have h1195 : KNN T H1181 r0 e d := (KNN_fr w1156 g0 f1186 rfl a1176)
        exact wp_ireturn e240 c240_42 rfl ⟨rfl, w1185, f1193, z1187, rfl, ⟨b1188.1, b1188.2⟩, (Or.inl ⟨by omega, by omega, by omega, h1195⟩)⟩
  · refine wp_of e240 c240_10 (rw_ifnull_r (p1 := 17) (p2 := 13) (by decide) rfl ?_)
    refine wp_of e240 c240_13 (rw_iconst (pc' := 14) rfl ?_)
    refine wp_of e240 c240_14 (rw_goto (p1 := 18) (by decide) ?_)
    have k1196 : wKI H1138 r0 = wKI H r0 := (wKI_fr hW g0 ((wfr.rf (l := [(42, 0)])).put' e1139 g0 rfl) rfl)
    have h1197 : RB T H1138 r0 e d := (RB_fr hW g0 ((wfr.rf (l := [(42, 0)])).put' e1139 g0 rfl) rfl hRB_r0)
    have h1198 : KNN T H1138 r0 e d := (KNN_fr hW g0 ((wfr.rf (l := [(42, 0)])).put' e1139 g0 rfl) rfl hKNN_r0)
    refine wp_of e240 c240_18 (xc_V (pc' := 21) (r := r0) (as := [vI 1]) (st := []) (lm_9_433) rfl rfl (Nat.le_of_ble_eq_true rfl) w1140 g0 sh_42 (by decide) rfl (by decide) (u_241 (e := e) (d := d) w1140 g0 ⟨by decide, by decide⟩ (by omega) (by omega) (by assumption) (by assumption) (by assumption) (by assumption) h1197 h1198) (fun R1199 T1200 H1201 p1202 => ?_))
    obtain ⟨e1203, w1205, f1206, z1207, e1204, b1208, p1209⟩ := p1202
    subst e1203
    subst e1204
    rcases p1209 with ⟨a1210, a1211, a1212, a1213, a1214, a1215, a1216, a1217, a1218⟩ | ⟨a1219, a1220, a1221, a1222, a1223, a1224, a1225⟩
    · have f1226 := f1141.tr f1206 rfl
      show wp _ _ 240 21 [(0, .ref r0)] [vI z1207] _ H1201 _
      refine wp_of e240 c240_21 (rw_istore_n (pc' := 22) (z := z1207) (L' := [(1, vI z1207), (0, .ref r0)]) rfl rfl rfl ?_)
      refine wp_of e240 c240_22 (rw_iload_n (pc' := 23) (z := z1207) rfl rfl ?_)
      refine wp_of e240 c240_23 (rw_if_le (p1 := 34) (p2 := 26) (by decide) rfl ⟨Int.le_trans (by decide) b1208.1, Int.le_trans b1208.2 (by decide)⟩ (fun c1227 => ?_) (fun c1227 => ?_))
      · have _kb := (a1218).1
        refine wp_of e240 c240_34 (rw_aload_n (pc' := 35) (v := .ref r0) rfl rfl rfl ?_)
        refine wp_of e240 c240_35 (rw_aload_n (pc' := 36) (v := .ref r0) rfl rfl rfl ?_)
        refine wp_of e240 c240_36 (xg_I (pc' := 39) lf_9_422 w1205 g0 sh_42 (by decide) (by decide) ty_42_29 rfl rfl (fun b1228 b1229 => ?_))
        refine wp_of e240 c240_39 (xc_V (pc' := 42) (r := r0) (as := [vI (H1201 r0 29)]) (st := []) (lm_9_58) rfl rfl (Nat.le_of_ble_eq_true rfl) w1205 g0 sh_42 (by decide) rfl (by decide) (u_209  w1205 g0 ⟨Int.le_trans (by decide) b1228, Int.le_trans b1229 (by decide)⟩) (fun R1230 T1231 H1232 p1233 => ?_))
        obtain ⟨e1234, w1236, f1237, z1238, e1235, b1239, p1240⟩ := p1233
        subst e1234
        subst e1235
        obtain ⟨a1241, a1242, a1243⟩ := p1240
        have f1244 := f1226.tr f1237 rfl
        show wp _ _ 240 42 [(1, vI z1207), (0, .ref r0)] [vI z1238] _ H1232 _
        have k1245 : wKI H1232 r0 = wKI H1201 r0 := (wKI_fr w1205 g0 f1237 rfl)
        have h1246 : KNN T H1232 r0 e d := (KNN_fr w1205 g0 f1237 rfl a1217)
        exact wp_ireturn e240 c240_42 rfl ⟨rfl, w1236, f1244, z1238, rfl, ⟨b1239.1, b1239.2⟩, (Or.inr ⟨by omega, by omega, by omega, h1246⟩)⟩
      · exfalso
        omega
    · have f1247 := f1141.tr f1206 rfl
      show wp _ _ 240 21 [(0, .ref r0)] [vI z1207] _ H1201 _
      refine wp_of e240 c240_21 (rw_istore_n (pc' := 22) (z := z1207) (L' := [(1, vI z1207), (0, .ref r0)]) rfl rfl rfl ?_)
      refine wp_of e240 c240_22 (rw_iload_n (pc' := 23) (z := z1207) rfl rfl ?_)
      refine wp_of e240 c240_23 (rw_if_le (p1 := 34) (p2 := 26) (by decide) rfl ⟨Int.le_trans (by decide) b1208.1, Int.le_trans b1208.2 (by decide)⟩ (fun c1248 => ?_) (fun c1248 => ?_))
      · exfalso
        omega
      · refine wp_of e240 c240_26 (rw_aload_n (pc' := 27) (v := .ref r0) rfl rfl rfl ?_)
        refine wp_of e240 c240_27 (rw_iload_n (pc' := 28) (z := z1207) rfl rfl ?_)
        refine wp_of e240 c240_28 (xc_V (pc' := 31) (r := r0) (as := [vI z1207]) (st := []) (lm_9_54) rfl rfl (Nat.le_of_ble_eq_true rfl) w1205 g0 sh_42 (by decide) rfl (by decide) (u_170  w1205 g0 ⟨Int.le_trans (by decide) b1208.1, Int.le_trans b1208.2 (by decide)⟩) (fun R1249 T1250 H1251 p1252 => ?_))
        obtain ⟨e1253, w1255, f1256, z1257, e1254, b1258, p1259⟩ := p1252
        subst e1253
        subst e1254
        obtain ⟨a1260, a1261, a1262⟩ := p1259
        have f1263 := f1247.tr f1256 rfl
        show wp _ _ 240 31 [(1, vI z1207), (0, .ref r0)] [vI z1257] _ H1251 _
        refine wp_of e240 c240_31 (rw_goto (p1 := 42) (by decide) ?_)
        have k1264 : wKI H1251 r0 = wKI H1201 r0 := (wKI_fr w1205 g0 f1256 rfl)
        have h1265 : KNN T H1251 r0 e d := (KNN_fr w1205 g0 f1256 rfl a1225)
        exact wp_ireturn e240 c240_42 rfl ⟨rfl, w1255, f1263, z1257, rfl, ⟨b1258.1, b1258.2⟩, (Or.inl ⟨by omega, by omega, by omega, h1265⟩)⟩
/-! StrikeAwakeModel.can()I  -/
abbrev uq_244 (r0 : Nat) (e : xD) (d : xD) (T : wq_T) (H : wq_H) : Option Value → wq_T → wq_H → Prop := fun r T' H' => T = T' ∧ WT T H' ∧ wfr [(42, 0), (42, 1), (42, 2), (42, 28), (42, 29), (51, 999), (52, 999)] T H H' ∧ ∃ z : Int, some (vI z) = r ∧ ((-2147483648) ≤ z ∧ z ≤ 2147483647) ∧ (((z = -1) ∧ (wKI H' r0 = 1) ∧ (H r0 3 = -1 ∨ 20000 < xlots d) ∧ KNN T H' r0 e d) ∨ ((0 ≤ z ∧ z ≤ 1) ∧ (wKI H' r0 = 1) ∧ (H r0 3 ≠ -1 ∧ xlots d ≤ 20000) ∧ ((z = 1 ∧ 0 < xcn (xwf e d) (xlots d).toNat) ∨ (z = 0 ∧ xcn (xwf e d) (xlots d).toNat ≤ 0)) ∧ KNN T H' r0 e d))
set_option maxHeartbeats 4000000 in
theorem u_244 {kt : Nat → Option mc_E} {T : wq_T} {H : wq_H} {r0 : Nat} {e : xD} {d : xD} (hW : WT T H) (g0 : T.2.2.2 r0 = some 42) (p0 : wKI H r0 = 1) (p1 : XW d) (p2 : ∀ h : Nat, d 0 0 ≤ (h : Int) → h < 24 → e 13 h = 0) (p3 : XN d) (p4 : ∀ h : Nat, h < 24 → 0 ≤ e 13 h ∧ e 13 h ≤ 100) (hRB_r0 : RB T H r0 e d) (hKNN_r0 : KNN T H r0 e d) : wpc kt 8 244 [.ref r0] T H (uq_244 r0 e d T H) := by
  refine wp_enter e244 (Nat.le_of_ble_eq_true rfl) rfl ?_
  have f0 : wfr [(42, 0), (42, 1), (42, 2), (42, 28), (42, 29), (51, 999), (52, 999)] T H H := wfr.rf
  show wp _ _ 244 0 [(0, .ref r0)] [] _ H _
  have _b := RB_b hW hRB_r0
  have _nu := RB_n3 hRB_r0
  have _lm := RB_lm hRB_r0
  refine wp_of e244 c244_0 (rw_aload_n (pc' := 1) (v := .ref r0) rfl rfl rfl ?_)
  refine wp_of e244 c244_1 (rw_iconst (pc' := 2) rfl ?_)
  refine wp_of e244 c244_2 (xp_I (pc' := 5) lf_9_48 hW g0 sh_42 (by decide) (by decide) ty_42_0 rfl rfl (by decide) (by decide) ⟨by decide, by decide⟩ rfl (fun H1170 e1171 w1172 => ?_))
  have f1173 := f0.put' e1171 g0 rfl
  have k1174 : H1170 r0 0 = 0 := wq_u_s e1171
  refine wp_of e244 c244_5 (rw_aload_n (pc' := 6) (v := .ref r0) rfl rfl rfl ?_)
  refine wp_of e244 c244_6 (rw_aload_n (pc' := 7) (v := .ref r0) rfl rfl rfl ?_)
  have k1175 : H1170 r0 3 = H r0 3 := (wq_u_j e1171 rfl)
  refine wp_of e244 c244_7 (xg_O (pc' := 10) lf_9_337 w1172 g0 sh_42 (by decide) (by decide) ty_42_3 rfl rfl (fun q1177 => ?_) (fun r1176 q1177 g1178 => ?_))
  · refine wp_of e244 c244_10 (rw_ifnull_n (p1 := 17) (p2 := 13) (by decide) rfl ?_)
    refine wp_of e244 c244_17 (rw_iconst (pc' := 18) rfl ?_)
    have k1179 : wKI H1170 r0 = wKI H r0 := (wKI_fr hW g0 ((wfr.rf (l := [(42, 0)])).put' e1171 g0 rfl) rfl)
    have h1180 : RB T H1170 r0 e d := (RB_fr hW g0 ((wfr.rf (l := [(42, 0)])).put' e1171 g0 rfl) rfl hRB_r0)
    have h1181 : KNN T H1170 r0 e d := (KNN_fr hW g0 ((wfr.rf (l := [(42, 0)])).put' e1171 g0 rfl) rfl hKNN_r0)
    refine wp_of e244 c244_18 (xc_V (pc' := 21) (r := r0) (as := [vI 0]) (st := []) (lm_9_433) rfl rfl (Nat.le_of_ble_eq_true rfl) w1172 g0 sh_42 (by decide) rfl (by decide) (u_241 (e := e) (d := d) w1172 g0 ⟨by decide, by decide⟩ (by omega) (by omega) (by assumption) (by assumption) (by assumption) (by assumption) h1180 h1181) (fun R1182 T1183 H1184 p1185 => ?_))
    obtain ⟨e1186, w1188, f1189, z1190, e1187, b1191, p1192⟩ := p1185
    subst e1186
    subst e1187
    rcases p1192 with ⟨a1193, a1194, a1195, a1196, a1197, a1198, a1199, a1200, a1201⟩ | ⟨a1202, a1203, a1204, a1205, a1206, a1207, a1208⟩
    · exfalso
      omega
    · have f1209 := f1173.tr f1189 rfl
      show wp _ _ 244 21 [(0, .ref r0)] [vI z1190] _ H1184 _
      refine wp_of e244 c244_21 (rw_istore_n (pc' := 22) (z := z1190) (L' := [(1, vI z1190), (0, .ref r0)]) rfl rfl rfl ?_)
      refine wp_of e244 c244_22 (rw_iload_n (pc' := 23) (z := z1190) rfl rfl ?_)
      refine wp_of e244 c244_23 (rw_if_le (p1 := 34) (p2 := 26) (by decide) rfl ⟨Int.le_trans (by decide) b1191.1, Int.le_trans b1191.2 (by decide)⟩ (fun c1210 => ?_) (fun c1210 => ?_))
      · exfalso
        omega
      · refine wp_of e244 c244_26 (rw_aload_n (pc' := 27) (v := .ref r0) rfl rfl rfl ?_)
        refine wp_of e244 c244_27 (rw_iload_n (pc' := 28) (z := z1190) rfl rfl ?_)
        refine wp_of e244 c244_28 (xc_V (pc' := 31) (r := r0) (as := [vI z1190]) (st := []) (lm_9_54) rfl rfl (Nat.le_of_ble_eq_true rfl) w1188 g0 sh_42 (by decide) rfl (by decide) (u_170  w1188 g0 ⟨Int.le_trans (by decide) b1191.1, Int.le_trans b1191.2 (by decide)⟩) (fun R1211 T1212 H1213 p1214 => ?_))
        obtain ⟨e1215, w1217, f1218, z1219, e1216, b1220, p1221⟩ := p1214
        subst e1215
        subst e1216
        obtain ⟨a1222, a1223, a1224⟩ := p1221
        have f1225 := f1209.tr f1218 rfl
        show wp _ _ 244 31 [(1, vI z1190), (0, .ref r0)] [vI z1219] _ H1213 _
        refine wp_of e244 c244_31 (rw_goto (p1 := 50) (by decide) ?_)
        have k1226 : wKI H1213 r0 = wKI H1184 r0 := (wKI_fr w1188 g0 f1218 rfl)
        have h1227 : KNN T H1213 r0 e d := (KNN_fr w1188 g0 f1218 rfl a1208)
        exact wp_ireturn e244 c244_50 rfl ⟨rfl, w1217, f1225, z1219, rfl, ⟨b1220.1, b1220.2⟩, (Or.inl ⟨by omega, by omega, by omega, h1227⟩)⟩
  · refine wp_of e244 c244_10 (rw_ifnull_r (p1 := 17) (p2 := 13) (by decide) rfl ?_)
    refine wp_of e244 c244_13 (rw_iconst (pc' := 14) rfl ?_)
    refine wp_of e244 c244_14 (rw_goto (p1 := 18) (by decide) ?_)
    have k1228 : wKI H1170 r0 = wKI H r0 := (wKI_fr hW g0 ((wfr.rf (l := [(42, 0)])).put' e1171 g0 rfl) rfl)
    have h1229 : RB T H1170 r0 e d := (RB_fr hW g0 ((wfr.rf (l := [(42, 0)])).put' e1171 g0 rfl) rfl hRB_r0)
    have h1230 : KNN T H1170 r0 e d := (KNN_fr hW g0 ((wfr.rf (l := [(42, 0)])).put' e1171 g0 rfl) rfl hKNN_r0)
    refine wp_of e244 c244_18 (xc_V (pc' := 21) (r := r0) (as := [vI 1]) (st := []) (lm_9_433) rfl rfl (Nat.le_of_ble_eq_true rfl) w1172 g0 sh_42 (by decide) rfl (by decide) (u_241 (e := e) (d := d) w1172 g0 ⟨by decide, by decide⟩ (by omega) (by omega) (by assumption) (by assumption) (by assumption) (by assumption) h1229 h1230) (fun R1231 T1232 H1233 p1234 => ?_))
    obtain ⟨e1235, w1237, f1238, z1239, e1236, b1240, p1241⟩ := p1234
    subst e1235
    subst e1236
    rcases p1241 with ⟨a1242, a1243, a1244, a1245, a1246, a1247, a1248, a1249, a1250⟩ | ⟨a1251, a1252, a1253, a1254, a1255, a1256, a1257⟩
    · have f1258 := f1173.tr f1238 rfl
      show wp _ _ 244 21 [(0, .ref r0)] [vI z1239] _ H1233 _
      refine wp_of e244 c244_21 (rw_istore_n (pc' := 22) (z := z1239) (L' := [(1, vI z1239), (0, .ref r0)]) rfl rfl rfl ?_)
      refine wp_of e244 c244_22 (rw_iload_n (pc' := 23) (z := z1239) rfl rfl ?_)
      refine wp_of e244 c244_23 (rw_if_le (p1 := 34) (p2 := 26) (by decide) rfl ⟨Int.le_trans (by decide) b1240.1, Int.le_trans b1240.2 (by decide)⟩ (fun c1259 => ?_) (fun c1259 => ?_))
      · have _kb := (a1250).1
        refine wp_of e244 c244_34 (rw_aload_n (pc' := 35) (v := .ref r0) rfl rfl rfl ?_)
        refine wp_of e244 c244_35 (rw_aload_n (pc' := 36) (v := .ref r0) rfl rfl rfl ?_)
        refine wp_of e244 c244_36 (xg_I (pc' := 39) lf_9_422 w1237 g0 sh_42 (by decide) (by decide) ty_42_29 rfl rfl (fun b1260 b1261 => ?_))
        refine wp_of e244 c244_39 (rw_if_le (p1 := 46) (p2 := 42) (by decide) rfl ⟨Int.le_trans (by decide) b1260, Int.le_trans b1261 (by decide)⟩ (fun c1262 => ?_) (fun c1262 => ?_))
        · refine wp_of e244 c244_46 (rw_iconst (pc' := 47) rfl ?_)
          refine wp_of e244 c244_47 (xc_V (pc' := 50) (r := r0) (as := [vI 0]) (st := []) (lm_9_58) rfl rfl (Nat.le_of_ble_eq_true rfl) w1237 g0 sh_42 (by decide) rfl (by decide) (u_209  w1237 g0 ⟨by decide, by decide⟩) (fun R1263 T1264 H1265 p1266 => ?_))
          obtain ⟨e1267, w1269, f1270, z1271, e1268, b1272, p1273⟩ := p1266
          subst e1267
          subst e1268
          obtain ⟨a1274, a1275, a1276⟩ := p1273
          have f1277 := f1258.tr f1270 rfl
          show wp _ _ 244 50 [(1, vI z1239), (0, .ref r0)] [vI z1271] _ H1265 _
          have k1278 : wKI H1265 r0 = wKI H1233 r0 := (wKI_fr w1237 g0 f1270 rfl)
          have h1279 : KNN T H1265 r0 e d := (KNN_fr w1237 g0 f1270 rfl a1249)
          exact wp_ireturn e244 c244_50 rfl ⟨rfl, w1269, f1277, z1271, rfl, ⟨b1272.1, b1272.2⟩, (Or.inr ⟨by omega, by omega, by omega, by omega, h1279⟩)⟩
        · refine wp_of e244 c244_42 (rw_iconst (pc' := 43) rfl ?_)
          refine wp_of e244 c244_43 (rw_goto (p1 := 47) (by decide) ?_)
          refine wp_of e244 c244_47 (xc_V (pc' := 50) (r := r0) (as := [vI 1]) (st := []) (lm_9_58) rfl rfl (Nat.le_of_ble_eq_true rfl) w1237 g0 sh_42 (by decide) rfl (by decide) (u_209  w1237 g0 ⟨by decide, by decide⟩) (fun R1280 T1281 H1282 p1283 => ?_))
          obtain ⟨e1284, w1286, f1287, z1288, e1285, b1289, p1290⟩ := p1283
          subst e1284
          subst e1285
          obtain ⟨a1291, a1292, a1293⟩ := p1290
          have f1294 := f1258.tr f1287 rfl
          show wp _ _ 244 50 [(1, vI z1239), (0, .ref r0)] [vI z1288] _ H1282 _
          have k1295 : wKI H1282 r0 = wKI H1233 r0 := (wKI_fr w1237 g0 f1287 rfl)
          have h1296 : KNN T H1282 r0 e d := (KNN_fr w1237 g0 f1287 rfl a1249)
          exact wp_ireturn e244 c244_50 rfl ⟨rfl, w1286, f1294, z1288, rfl, ⟨b1289.1, b1289.2⟩, (Or.inr ⟨by omega, by omega, by omega, by omega, h1296⟩)⟩
      · exfalso
        omega
    · have f1297 := f1173.tr f1238 rfl
      show wp _ _ 244 21 [(0, .ref r0)] [vI z1239] _ H1233 _
      refine wp_of e244 c244_21 (rw_istore_n (pc' := 22) (z := z1239) (L' := [(1, vI z1239), (0, .ref r0)]) rfl rfl rfl ?_)
      refine wp_of e244 c244_22 (rw_iload_n (pc' := 23) (z := z1239) rfl rfl ?_)
      refine wp_of e244 c244_23 (rw_if_le (p1 := 34) (p2 := 26) (by decide) rfl ⟨Int.le_trans (by decide) b1240.1, Int.le_trans b1240.2 (by decide)⟩ (fun c1298 => ?_) (fun c1298 => ?_))
      · exfalso
        omega
      · refine wp_of e244 c244_26 (rw_aload_n (pc' := 27) (v := .ref r0) rfl rfl rfl ?_)
        refine wp_of e244 c244_27 (rw_iload_n (pc' := 28) (z := z1239) rfl rfl ?_)
        refine wp_of e244 c244_28 (xc_V (pc' := 31) (r := r0) (as := [vI z1239]) (st := []) (lm_9_54) rfl rfl (Nat.le_of_ble_eq_true rfl) w1237 g0 sh_42 (by decide) rfl (by decide) (u_170  w1237 g0 ⟨Int.le_trans (by decide) b1240.1, Int.le_trans b1240.2 (by decide)⟩) (fun R1299 T1300 H1301 p1302 => ?_))
        obtain ⟨e1303, w1305, f1306, z1307, e1304, b1308, p1309⟩ := p1302
        subst e1303
        subst e1304
        obtain ⟨a1310, a1311, a1312⟩ := p1309
        have f1313 := f1297.tr f1306 rfl
        show wp _ _ 244 31 [(1, vI z1239), (0, .ref r0)] [vI z1307] _ H1301 _
        refine wp_of e244 c244_31 (rw_goto (p1 := 50) (by decide) ?_)
        have k1314 : wKI H1301 r0 = wKI H1233 r0 := (wKI_fr w1237 g0 f1306 rfl)
        have h1315 : KNN T H1301 r0 e d := (KNN_fr w1237 g0 f1306 rfl a1257)
        exact wp_ireturn e244 c244_50 rfl ⟨rfl, w1305, f1313, z1307, rfl, ⟨b1308.1, b1308.2⟩, (Or.inl ⟨by omega, by omega, by omega, h1315⟩)⟩
/-! StrikeAwakeModel.world(II)I  -/
abbrev uq_245 (r0 : Nat) (a1 : Int) (a2 : Int) (e : xD) (d : xD) (T : wq_T) (H : wq_H) : Option Value → wq_T → wq_H → Prop := fun r T' H' => T = T' ∧ WT T H' ∧ wfr [(42, 0), (42, 1), (42, 2), (42, 28), (42, 29), (51, 999), (52, 999)] T H H' ∧ ∃ z : Int, some (vI z) = r ∧ ((-2147483648) ≤ z ∧ z ≤ 2147483647) ∧ (((wKI H' r0 = 1) ∧ KNN T H' r0 e d))
set_option maxHeartbeats 4000000 in
theorem u_245 {kt : Nat → Option mc_E} {T : wq_T} {H : wq_H} {r0 : Nat} {a1 : Int} {a2 : Int} {e : xD} {d : xD} (hW : WT T H) (g0 : T.2.2.2 r0 = some 42) (i1 : (-2147483648) ≤ a1 ∧ a1 ≤ 2147483647) (i2 : (-2147483648) ≤ a2 ∧ a2 ≤ 2147483647) (p0 : wKI H r0 = 1) (p1 : XW d) (p2 : ∀ h : Nat, d 0 0 ≤ (h : Int) → h < 24 → e 13 h = 0) (p3 : XN d) (p4 : ∀ h : Nat, h < 24 → 0 ≤ e 13 h ∧ e 13 h ≤ 100) (hRB_r0 : RB T H r0 e d) (hKNN_r0 : KNN T H r0 e d) : wpc kt 8 245 [.ref r0, vI a1, vI a2] T H (uq_245 r0 a1 a2 e d T H) := by
  refine wp_enter e245 (Nat.le_of_ble_eq_true rfl) rfl ?_
  have f0 : wfr [(42, 0), (42, 1), (42, 2), (42, 28), (42, 29), (51, 999), (52, 999)] T H H := wfr.rf
  show wp _ _ 245 0 [(0, .ref r0), (1, vI a1), (2, vI a2)] [] _ H _
  have _b := RB_b hW hRB_r0
  have _nu := RB_n3 hRB_r0
  have _lm := RB_lm hRB_r0
  refine wp_of e245 c245_0 (rw_aload_n (pc' := 1) (v := .ref r0) rfl rfl rfl ?_)
  refine wp_of e245 c245_1 (rw_iconst (pc' := 2) rfl ?_)
  refine wp_of e245 c245_2 (xp_I (pc' := 5) lf_9_48 hW g0 sh_42 (by decide) (by decide) ty_42_0 rfl rfl (by decide) (by decide) ⟨by decide, by decide⟩ rfl (fun H1297 e1298 w1299 => ?_))
  have f1300 := f0.put' e1298 g0 rfl
  have k1301 : H1297 r0 0 = 0 := wq_u_s e1298
  refine wp_of e245 c245_5 (rw_aload_n (pc' := 6) (v := .ref r0) rfl rfl rfl ?_)
  refine wp_of e245 c245_6 (rw_aload_n (pc' := 7) (v := .ref r0) rfl rfl rfl ?_)
  refine wp_of e245 c245_7 (rw_iload_n (pc' := 8) (z := a2) rfl rfl ?_)
  refine wp_of e245 c245_8 (xc_V (pc' := 11) (r := r0) (as := [vI a2]) (st := [.ref r0]) (lm_9_364) rfl rfl (Nat.le_of_ble_eq_true rfl) w1299 g0 sh_42 (by decide) rfl (by decide) (s_213 w1299 g0 ⟨i2.1, i2.2⟩) (fun R1302 T1303 H1304 p1305 => ?_))
  obtain ⟨e1306, e1308, z1310, e1307, b1311, p1309⟩ := p1305
  subst e1306
  subst e1307
  subst e1308
  show wp _ _ 245 11 [(0, .ref r0), (1, vI a1), (2, vI a2)] [vI z1310, .ref r0] _ H1297 _
  refine wp_of e245 c245_11 (rw_if_eq (p1 := 22) (p2 := 14) (by decide) rfl ⟨Int.le_trans (by decide) b1311.1, Int.le_trans b1311.2 (by decide)⟩ (fun c1312 => ?_) (fun c1312 => ?_))
  · refine wp_of e245 c245_22 (rw_iconst (pc' := 23) rfl ?_)
    have k1313 : H1297 r0 3 = H r0 3 := (wq_u_j e1298 rfl)
    have k1314 : wKI H1297 r0 = wKI H r0 := (wKI_fr hW g0 ((wfr.rf (l := [(42, 0)])).put' e1298 g0 rfl) rfl)
    have h1315 : RB T H1297 r0 e d := (RB_fr hW g0 ((wfr.rf (l := [(42, 0)])).put' e1298 g0 rfl) rfl hRB_r0)
    have h1316 : KNN T H1297 r0 e d := (KNN_fr hW g0 ((wfr.rf (l := [(42, 0)])).put' e1298 g0 rfl) rfl hKNN_r0)
    refine wp_of e245 c245_23 (xc_V (pc' := 26) (r := r0) (as := [vI 0]) (st := []) (lm_9_433) rfl rfl (Nat.le_of_ble_eq_true rfl) w1299 g0 sh_42 (by decide) rfl (by decide) (u_241 (e := e) (d := d) w1299 g0 ⟨by decide, by decide⟩ (by omega) (by omega) (by assumption) (by assumption) (by assumption) (by assumption) h1315 h1316) (fun R1317 T1318 H1319 p1320 => ?_))
    obtain ⟨e1321, w1323, f1324, z1325, e1322, b1326, p1327⟩ := p1320
    subst e1321
    subst e1322
    rcases p1327 with ⟨a1328, a1329, a1330, a1331, a1332, a1333, a1334, a1335, a1336⟩ | ⟨a1337, a1338, a1339, a1340, a1341, a1342, a1343⟩
    · exfalso
      omega
    · have f1344 := f1300.tr f1324 rfl
      show wp _ _ 245 26 [(0, .ref r0), (1, vI a1), (2, vI a2)] [vI z1325] _ H1319 _
      have k1345 : wLM H1319 r0 = wLM H r0 := ((wLM_fr w1299 g0 f1324 rfl).trans (wLM_fr hW g0 ((wfr.rf (l := [(42, 0)])).put' e1298 g0 rfl) rfl))
      refine wp_of e245 c245_26 (rw_istore_n (pc' := 27) (z := z1325) (L' := [(3, vI z1325), (0, .ref r0), (1, vI a1), (2, vI a2)]) rfl rfl rfl ?_)
      refine wp_of e245 c245_27 (rw_iload_n (pc' := 28) (z := z1325) rfl rfl ?_)
      refine wp_of e245 c245_28 (rw_if_ne (p1 := 41) (p2 := 31) (by decide) rfl ⟨Int.le_trans (by decide) b1326.1, Int.le_trans b1326.2 (by decide)⟩ (fun c1346 => ?_) (fun c1346 => ?_))
      · refine wp_of e245 c245_41 (rw_iload_n (pc' := 42) (z := z1325) rfl rfl ?_)
        refine wp_of e245 c245_42 (rw_if_le (p1 := 51) (p2 := 45) (by decide) rfl ⟨Int.le_trans (by decide) b1326.1, Int.le_trans b1326.2 (by decide)⟩ (fun c1347 => ?_) (fun c1347 => ?_))
        · exfalso
          omega
        · refine wp_of e245 c245_45 (rw_aload_n (pc' := 46) (v := .ref r0) rfl rfl rfl ?_)
          refine wp_of e245 c245_46 (rw_iload_n (pc' := 47) (z := z1325) rfl rfl ?_)
          refine wp_of e245 c245_47 (xc_V (pc' := 50) (r := r0) (as := [vI z1325]) (st := []) (lm_9_54) rfl rfl (Nat.le_of_ble_eq_true rfl) w1323 g0 sh_42 (by decide) rfl (by decide) (s_170 w1323 g0 ⟨Int.le_trans (by decide) b1326.1, Int.le_trans b1326.2 (by decide)⟩) (fun R1348 T1349 H1350 p1351 => ?_))
          obtain ⟨e1352, w1354, f1355, z1356, e1353, b1357⟩ := p1351
          subst e1352
          subst e1353
          have f1358 := f1344.tr f1355 rfl
          show wp _ _ 245 50 [(3, vI z1325), (0, .ref r0), (1, vI a1), (2, vI a2)] [vI z1356] _ H1350 _
          have k1359 : wKI H1350 r0 = wKI H1319 r0 := (wKI_fr w1323 g0 f1355 rfl)
          have h1360 : KNN T H1350 r0 e d := (KNN_fr w1323 g0 f1355 rfl a1343)
          exact wp_ireturn e245 c245_50 rfl ⟨rfl, w1354, f1358, z1356, rfl, ⟨b1357.1, b1357.2⟩, ⟨by omega, h1360⟩⟩
      · exfalso
        omega
  · refine wp_of e245 c245_14 (rw_iload_n (pc' := 15) (z := a1) rfl rfl ?_)
    refine wp_of e245 c245_15 (rw_if_lt (p1 := 22) (p2 := 18) (by decide) rfl ⟨i1.1, i1.2⟩ (fun c1361 => ?_) (fun c1361 => ?_))
    · refine wp_of e245 c245_22 (rw_iconst (pc' := 23) rfl ?_)
      have k1362 : H1297 r0 3 = H r0 3 := (wq_u_j e1298 rfl)
      have k1363 : wKI H1297 r0 = wKI H r0 := (wKI_fr hW g0 ((wfr.rf (l := [(42, 0)])).put' e1298 g0 rfl) rfl)
      have h1364 : RB T H1297 r0 e d := (RB_fr hW g0 ((wfr.rf (l := [(42, 0)])).put' e1298 g0 rfl) rfl hRB_r0)
      have h1365 : KNN T H1297 r0 e d := (KNN_fr hW g0 ((wfr.rf (l := [(42, 0)])).put' e1298 g0 rfl) rfl hKNN_r0)
      refine wp_of e245 c245_23 (xc_V (pc' := 26) (r := r0) (as := [vI 0]) (st := []) (lm_9_433) rfl rfl (Nat.le_of_ble_eq_true rfl) w1299 g0 sh_42 (by decide) rfl (by decide) (u_241 (e := e) (d := d) w1299 g0 ⟨by decide, by decide⟩ (by omega) (by omega) (by assumption) (by assumption) (by assumption) (by assumption) h1364 h1365) (fun R1366 T1367 H1368 p1369 => ?_))
      obtain ⟨e1370, w1372, f1373, z1374, e1371, b1375, p1376⟩ := p1369
      subst e1370
      subst e1371
      rcases p1376 with ⟨a1377, a1378, a1379, a1380, a1381, a1382, a1383, a1384, a1385⟩ | ⟨a1386, a1387, a1388, a1389, a1390, a1391, a1392⟩
      · exfalso
        omega
      · have f1393 := f1300.tr f1373 rfl
        show wp _ _ 245 26 [(0, .ref r0), (1, vI a1), (2, vI a2)] [vI z1374] _ H1368 _
        have k1394 : wLM H1368 r0 = wLM H r0 := ((wLM_fr w1299 g0 f1373 rfl).trans (wLM_fr hW g0 ((wfr.rf (l := [(42, 0)])).put' e1298 g0 rfl) rfl))
        refine wp_of e245 c245_26 (rw_istore_n (pc' := 27) (z := z1374) (L' := [(3, vI z1374), (0, .ref r0), (1, vI a1), (2, vI a2)]) rfl rfl rfl ?_)
        refine wp_of e245 c245_27 (rw_iload_n (pc' := 28) (z := z1374) rfl rfl ?_)
        refine wp_of e245 c245_28 (rw_if_ne (p1 := 41) (p2 := 31) (by decide) rfl ⟨Int.le_trans (by decide) b1375.1, Int.le_trans b1375.2 (by decide)⟩ (fun c1395 => ?_) (fun c1395 => ?_))
        · refine wp_of e245 c245_41 (rw_iload_n (pc' := 42) (z := z1374) rfl rfl ?_)
          refine wp_of e245 c245_42 (rw_if_le (p1 := 51) (p2 := 45) (by decide) rfl ⟨Int.le_trans (by decide) b1375.1, Int.le_trans b1375.2 (by decide)⟩ (fun c1396 => ?_) (fun c1396 => ?_))
          · exfalso
            omega
          · refine wp_of e245 c245_45 (rw_aload_n (pc' := 46) (v := .ref r0) rfl rfl rfl ?_)
            refine wp_of e245 c245_46 (rw_iload_n (pc' := 47) (z := z1374) rfl rfl ?_)
            refine wp_of e245 c245_47 (xc_V (pc' := 50) (r := r0) (as := [vI z1374]) (st := []) (lm_9_54) rfl rfl (Nat.le_of_ble_eq_true rfl) w1372 g0 sh_42 (by decide) rfl (by decide) (s_170 w1372 g0 ⟨Int.le_trans (by decide) b1375.1, Int.le_trans b1375.2 (by decide)⟩) (fun R1397 T1398 H1399 p1400 => ?_))
            obtain ⟨e1401, w1403, f1404, z1405, e1402, b1406⟩ := p1400
            subst e1401
            subst e1402
            have f1407 := f1393.tr f1404 rfl
            show wp _ _ 245 50 [(3, vI z1374), (0, .ref r0), (1, vI a1), (2, vI a2)] [vI z1405] _ H1399 _
            have k1408 : wKI H1399 r0 = wKI H1368 r0 := (wKI_fr w1372 g0 f1404 rfl)
            have h1409 : KNN T H1399 r0 e d := (KNN_fr w1372 g0 f1404 rfl a1392)
            exact wp_ireturn e245 c245_50 rfl ⟨rfl, w1403, f1407, z1405, rfl, ⟨b1406.1, b1406.2⟩, ⟨by omega, h1409⟩⟩
        · exfalso
          omega
    · refine wp_of e245 c245_18 (rw_iconst (pc' := 19) rfl ?_)
      refine wp_of e245 c245_19 (rw_goto (p1 := 23) (by decide) ?_)
      have k1410 : H1297 r0 3 = H r0 3 := (wq_u_j e1298 rfl)
      have k1411 : wKI H1297 r0 = wKI H r0 := (wKI_fr hW g0 ((wfr.rf (l := [(42, 0)])).put' e1298 g0 rfl) rfl)
      have h1412 : RB T H1297 r0 e d := (RB_fr hW g0 ((wfr.rf (l := [(42, 0)])).put' e1298 g0 rfl) rfl hRB_r0)
      have h1413 : KNN T H1297 r0 e d := (KNN_fr hW g0 ((wfr.rf (l := [(42, 0)])).put' e1298 g0 rfl) rfl hKNN_r0)
      refine wp_of e245 c245_23 (xc_V (pc' := 26) (r := r0) (as := [vI 1]) (st := []) (lm_9_433) rfl rfl (Nat.le_of_ble_eq_true rfl) w1299 g0 sh_42 (by decide) rfl (by decide) (u_241 (e := e) (d := d) w1299 g0 ⟨by decide, by decide⟩ (by omega) (by omega) (by assumption) (by assumption) (by assumption) (by assumption) h1412 h1413) (fun R1414 T1415 H1416 p1417 => ?_))
      obtain ⟨e1418, w1420, f1421, z1422, e1419, b1423, p1424⟩ := p1417
      subst e1418
      subst e1419
      rcases p1424 with ⟨a1425, a1426, a1427, a1428, a1429, a1430, a1431, a1432, a1433⟩ | ⟨a1434, a1435, a1436, a1437, a1438, a1439, a1440⟩
      · have f1441 := f1300.tr f1421 rfl
        show wp _ _ 245 26 [(0, .ref r0), (1, vI a1), (2, vI a2)] [vI z1422] _ H1416 _
        have k1442 : wLM H1416 r0 = wLM H r0 := ((wLM_fr w1299 g0 f1421 rfl).trans (wLM_fr hW g0 ((wfr.rf (l := [(42, 0)])).put' e1298 g0 rfl) rfl))
        refine wp_of e245 c245_26 (rw_istore_n (pc' := 27) (z := z1422) (L' := [(3, vI z1422), (0, .ref r0), (1, vI a1), (2, vI a2)]) rfl rfl rfl ?_)
        refine wp_of e245 c245_27 (rw_iload_n (pc' := 28) (z := z1422) rfl rfl ?_)
        refine wp_of e245 c245_28 (rw_if_ne (p1 := 41) (p2 := 31) (by decide) rfl ⟨Int.le_trans (by decide) b1423.1, Int.le_trans b1423.2 (by decide)⟩ (fun c1443 => ?_) (fun c1443 => ?_))
        · exfalso
          omega
        · refine wp_of e245 c245_31 (rw_iload_n (pc' := 32) (z := a1) rfl rfl ?_)
          refine wp_of e245 c245_32 (rw_aload_n (pc' := 33) (v := .ref r0) rfl rfl rfl ?_)
          refine wp_of e245 c245_33 (xg_I (pc' := 36) lf_9_422 w1420 g0 sh_42 (by decide) (by decide) ty_42_29 rfl rfl (fun b1444 b1445 => ?_))
          refine wp_of e245 c245_36 (rw_icmp_lt (p1 := 41) (p2 := 39) (by decide) rfl ⟨i1.1, i1.2⟩ ⟨Int.le_trans (by decide) b1444, Int.le_trans b1445 (by decide)⟩ (fun c1446 => ?_) (fun c1446 => ?_))
          · refine wp_of e245 c245_41 (rw_iload_n (pc' := 42) (z := z1422) rfl rfl ?_)
            refine wp_of e245 c245_42 (rw_if_le (p1 := 51) (p2 := 45) (by decide) rfl ⟨Int.le_trans (by decide) b1423.1, Int.le_trans b1423.2 (by decide)⟩ (fun c1447 => ?_) (fun c1447 => ?_))
            · refine wp_of e245 c245_51 (rw_aload_n (pc' := 52) (v := .ref r0) rfl rfl rfl ?_)
              refine wp_of e245 c245_52 (rw_aload_n (pc' := 53) (v := .ref r0) rfl rfl rfl ?_)
              refine wp_of e245 c245_53 (xg_R (pc' := 56) lf_9_42 w1420 g0 sh_42 (by decide) (by decide) ty_42_30 rfl rfl (fun r1448 q1449 g1450 => ?_))
              refine wp_of e245 c245_56 (rw_iload_n (pc' := 57) (z := a1) rfl rfl ?_)
              refine wp_of e245 c245_57 (xa_I (so := 0) (pc' := 58) w1420 g1450 sh_52 (by decide) (ty_52 _) (by omega) (by omega) rfl (fun b1451 b1452 => ?_))
              have k1453 : H1416 r0 3 = H1297 r0 3 := (f1421 r0 3 _ g0 rfl)
              obtain ⟨r1454, q1455, g1456⟩ := (w1420.opt g0 (t' := 54) (n := 33) (j := 3) (p := 0) (q := 0) rfl (by decide) rfl).resolve_left (by omega)
              refine wp_of e245 c245_58 (xc_V (pc' := 61) (r := r0) (as := [vI (H1416 r1448 (a1.toNat))]) (st := []) (lm_9_425) rfl rfl (Nat.le_of_ble_eq_true rfl) w1420 g0 sh_42 (by decide) rfl (by decide) (s_243 w1420 g0 ⟨b1451, Int.le_trans b1452 (by decide)⟩ q1455 g1456 (by omega)) (fun R1457 T1458 H1459 p1460 => ?_))
              obtain ⟨e1461, w1463, f1464, e1462⟩ := p1460
              subst e1461
              subst e1462
              have f1465 := f1441.tr f1464 rfl
              show wp _ _ 245 61 [(3, vI z1422), (0, .ref r0), (1, vI a1), (2, vI a2)] [] _ H1459 _
              refine wp_of e245 c245_61 (rw_aload_n (pc' := 62) (v := .ref r0) rfl rfl rfl ?_)
              refine wp_of e245 c245_62 (rw_aload_n (pc' := 63) (v := .ref r0) rfl rfl rfl ?_)
              refine wp_of e245 c245_63 (xg_R (pc' := 66) lf_9_39 w1463 g0 sh_42 (by decide) (by decide) ty_42_27 rfl rfl (fun r1466 q1467 g1468 => ?_))
              refine wp_of e245 c245_66 (rw_iload_n (pc' := 67) (z := a2) rfl rfl ?_)
              refine wp_of e245 c245_67 (xa_I (so := 0) (pc' := 68) w1463 g1468 sh_51 (by decide) (ty_51 _) (by omega) (by omega) rfl (fun b1469 b1470 => ?_))
              refine wp_of e245 c245_68 (xc_V (pc' := 71) (r := r0) (as := [vI (H1459 r1466 (a2.toNat))]) (st := []) (lm_9_58) rfl rfl (Nat.le_of_ble_eq_true rfl) w1463 g0 sh_42 (by decide) rfl (by decide) (s_209 w1463 g0 ⟨Int.le_trans (by decide) b1469, Int.le_trans b1470 (by decide)⟩) (fun R1471 T1472 H1473 p1474 => ?_))
              obtain ⟨e1475, w1477, f1478, z1479, e1476, b1480⟩ := p1474
              subst e1475
              subst e1476
              have f1481 := f1465.tr f1478 rfl
              show wp _ _ 245 71 [(3, vI z1422), (0, .ref r0), (1, vI a1), (2, vI a2)] [vI z1479] _ H1473 _
              have k1482 : wKI H1473 r0 = wKI H1416 r0 := ((wKI_fr w1463 g0 f1478 rfl).trans (wKI_fr w1420 g0 f1464 rfl))
              have h1483 : KNN T H1473 r0 e d := (KNN_fr w1463 g0 f1478 rfl (KNN_fr w1420 g0 f1464 rfl a1432))
              exact wp_ireturn e245 c245_71 rfl ⟨rfl, w1477, f1481, z1479, rfl, ⟨b1480.1, b1480.2⟩, ⟨by omega, h1483⟩⟩
            · exfalso
              omega
          · refine wp_of e245 c245_39 (rw_iconst (pc' := 40) rfl ?_)
            refine wp_of e245 c245_40 (rw_istore_n (pc' := 41) (z := 1) (L' := [(3, vI 1), (0, .ref r0), (1, vI a1), (2, vI a2)]) rfl rfl rfl ?_)
            refine wp_of e245 c245_41 (rw_iload_n (pc' := 42) (z := 1) rfl rfl ?_)
            refine wp_of e245 c245_42 (rw_if_le (p1 := 51) (p2 := 45) (by decide) rfl ⟨by decide, by decide⟩ (fun c1484 => ?_) (fun c1484 => ?_))
            · exfalso
              omega
            · refine wp_of e245 c245_45 (rw_aload_n (pc' := 46) (v := .ref r0) rfl rfl rfl ?_)
              refine wp_of e245 c245_46 (rw_iload_n (pc' := 47) (z := 1) rfl rfl ?_)
              refine wp_of e245 c245_47 (xc_V (pc' := 50) (r := r0) (as := [vI 1]) (st := []) (lm_9_54) rfl rfl (Nat.le_of_ble_eq_true rfl) w1420 g0 sh_42 (by decide) rfl (by decide) (s_170 w1420 g0 ⟨by decide, by decide⟩) (fun R1485 T1486 H1487 p1488 => ?_))
              obtain ⟨e1489, w1491, f1492, z1493, e1490, b1494⟩ := p1488
              subst e1489
              subst e1490
              have f1495 := f1441.tr f1492 rfl
              show wp _ _ 245 50 [(3, vI 1), (0, .ref r0), (1, vI a1), (2, vI a2)] [vI z1493] _ H1487 _
              have k1496 : wKI H1487 r0 = wKI H1416 r0 := (wKI_fr w1420 g0 f1492 rfl)
              have h1497 : KNN T H1487 r0 e d := (KNN_fr w1420 g0 f1492 rfl a1432)
              exact wp_ireturn e245 c245_50 rfl ⟨rfl, w1491, f1495, z1493, rfl, ⟨b1494.1, b1494.2⟩, ⟨by omega, h1497⟩⟩
      · have f1498 := f1300.tr f1421 rfl
        show wp _ _ 245 26 [(0, .ref r0), (1, vI a1), (2, vI a2)] [vI z1422] _ H1416 _
        have k1499 : wLM H1416 r0 = wLM H r0 := ((wLM_fr w1299 g0 f1421 rfl).trans (wLM_fr hW g0 ((wfr.rf (l := [(42, 0)])).put' e1298 g0 rfl) rfl))
        refine wp_of e245 c245_26 (rw_istore_n (pc' := 27) (z := z1422) (L' := [(3, vI z1422), (0, .ref r0), (1, vI a1), (2, vI a2)]) rfl rfl rfl ?_)
        refine wp_of e245 c245_27 (rw_iload_n (pc' := 28) (z := z1422) rfl rfl ?_)
        refine wp_of e245 c245_28 (rw_if_ne (p1 := 41) (p2 := 31) (by decide) rfl ⟨Int.le_trans (by decide) b1423.1, Int.le_trans b1423.2 (by decide)⟩ (fun c1500 => ?_) (fun c1500 => ?_))
        · refine wp_of e245 c245_41 (rw_iload_n (pc' := 42) (z := z1422) rfl rfl ?_)
          refine wp_of e245 c245_42 (rw_if_le (p1 := 51) (p2 := 45) (by decide) rfl ⟨Int.le_trans (by decide) b1423.1, Int.le_trans b1423.2 (by decide)⟩ (fun c1501 => ?_) (fun c1501 => ?_))
          · exfalso
            omega
          · refine wp_of e245 c245_45 (rw_aload_n (pc' := 46) (v := .ref r0) rfl rfl rfl ?_)
            refine wp_of e245 c245_46 (rw_iload_n (pc' := 47) (z := z1422) rfl rfl ?_)
            refine wp_of e245 c245_47 (xc_V (pc' := 50) (r := r0) (as := [vI z1422]) (st := []) (lm_9_54) rfl rfl (Nat.le_of_ble_eq_true rfl) w1420 g0 sh_42 (by decide) rfl (by decide) (s_170 w1420 g0 ⟨Int.le_trans (by decide) b1423.1, Int.le_trans b1423.2 (by decide)⟩) (fun R1502 T1503 H1504 p1505 => ?_))
            obtain ⟨e1506, w1508, f1509, z1510, e1507, b1511⟩ := p1505
            subst e1506
            subst e1507
            have f1512 := f1498.tr f1509 rfl
            show wp _ _ 245 50 [(3, vI z1422), (0, .ref r0), (1, vI a1), (2, vI a2)] [vI z1510] _ H1504 _
            have k1513 : wKI H1504 r0 = wKI H1416 r0 := (wKI_fr w1420 g0 f1509 rfl)
            have h1514 : KNN T H1504 r0 e d := (KNN_fr w1420 g0 f1509 rfl a1440)
            exact wp_ireturn e245 c245_50 rfl ⟨rfl, w1508, f1512, z1510, rfl, ⟨b1511.1, b1511.2⟩, ⟨by omega, h1514⟩⟩
        · exfalso
          omega
end
