/-! StrikeAwakeModel.image()J  -/
abbrev uq_291 (r0 : Nat) (e : xD) (d : xD) (nY : Int) (gY : Nat → Int) (cY : Int) (T : wq_T) (H : wq_H) : Option Value → wq_T → wq_H → Prop := fun r T' H' => T = T' ∧ WT T H' ∧ wfr [(42, 0), (42, 1), (42, 2)] T H H' ∧ ∃ z : Int, some (vL z) = r ∧ ((-9223372036854775808) ≤ z ∧ z ≤ 9223372036854775807) ∧ (((z = -1) ∧ (H r0 3 = -1)) ∨ ((H r0 3 ≠ -1) ∧ (z = xim cY gY (nY).toNat)))
set_option maxHeartbeats 4000000 in
theorem u_291 {kt : Nat → Option mc_E} {T : wq_T} {H : wq_H} {r0 : Nat} {e : xD} {d : xD} {nY : Int} {gY : Nat → Int} {cY : Int} (hW : WT T H) (g0 : T.2.2.2 r0 = some 42) (p0 : XW d) (p1 : nY = d 0 3) (p2 : SG d gY) (hRB_r0 : RB T H r0 e d) (hRY_r0 : RY T H r0 nY gY cY) : wpc kt 3 291 [.ref r0] T H (uq_291 r0 e d nY gY cY T H) := by
  refine wp_enter e291 (Nat.le_of_ble_eq_true rfl) rfl ?_
  have f0 : wfr [(42, 0), (42, 1), (42, 2)] T H H := wfr.rf
  show wp _ _ 291 0 [(0, .ref r0)] [] _ H _
  have b1142 : 0 ≤ H r0 32 ∧ H r0 32 ≤ 2147483647 := hW.box g0 (n := 33) rfl (by decide) rfl
  have _b := RB_b hW hRB_r0
  have _nu := RB_n3 hRB_r0
  have _cy := hRY_r0.2
  refine wp_of e291 c291_0 (rw_aload_n (pc' := 1) (v := .ref r0) rfl rfl rfl ?_)
  refine wp_of e291 c291_1 (rw_iconst (pc' := 2) rfl ?_)
  refine wp_of e291 c291_2 (xp_I (pc' := 5) lf_9_48 hW g0 sh_42 (by decide) (by decide) ty_42_0 rfl rfl (by decide) (by decide) ⟨by decide, by decide⟩ rfl (fun H1143 e1144 w1145 => ?_))
  have f1146 := f0.put' e1144 g0 rfl
  have k1147 : H1143 r0 0 = 0 := wq_u_s e1144
  refine wp_of e291 c291_5 (rw_aload_n (pc' := 6) (v := .ref r0) rfl rfl rfl ?_)
  have k1148 : H1143 r0 3 = H r0 3 := (wq_u_j e1144 rfl)
  refine wp_of e291 c291_6 (xg_O (pc' := 9) lf_9_337 w1145 g0 sh_42 (by decide) (by decide) ty_42_3 rfl rfl (fun q1150 => ?_) (fun r1149 q1150 g1151 => ?_))
  · refine wp_of e291 c291_9 (rw_ifnonnull_n (p1 := 19) (p2 := 12) (by decide) rfl ?_)
    refine wp_of e291 c291_12 (rw_aload_n (pc' := 13) (v := .ref r0) rfl rfl rfl ?_)
    refine wp_of e291 c291_13 (rw_iconst (pc' := 14) rfl ?_)
    refine wp_of e291 c291_14 (xc_V (pc' := 17) (r := r0) (as := [vI 1]) (st := []) (lm_9_54) rfl rfl (Nat.le_of_ble_eq_true rfl) w1145 g0 sh_42 (by decide) rfl (by decide) (u_170  w1145 g0 ⟨by decide, by decide⟩) (fun R1152 T1153 H1154 p1155 => ?_))
    obtain ⟨e1156, w1158, f1159, z1160, e1157, b1161, p1162⟩ := p1155
    subst e1156
    subst e1157
    obtain ⟨a1163, a1164, a1165⟩ := p1162
    have f1166 := f1146.tr f1159 rfl
    show wp _ _ 291 17 [(0, .ref r0)] [vI z1160] _ H1154 _
    refine wp_of e291 c291_17 (rw_i2l (pc' := 18) rfl ⟨b1161.1, b1161.2⟩ ?_)
    exact wp_lreturn e291 c291_18 rfl ⟨rfl, w1158, f1166, z1160, rfl, ⟨Int.le_trans (by decide) b1161.1, Int.le_trans b1161.2 (by decide)⟩, (Or.inl ⟨by omega, by omega⟩)⟩
  · refine wp_of e291 c291_9 (rw_ifnonnull_r (p1 := 19) (p2 := 12) (by decide) rfl ?_)
    have h1167 : RB T H1143 r0 e d := (RB_fr hW g0 ((wfr.rf (l := [(42, 0)])).put' e1144 g0 rfl) rfl hRB_r0)
    have _n3 : H1143 r0 3 ≠ -1 := by omega
    have _k := RP_k (RB_at h1167 q1150)
    have _xp := p0.1
    have _gb : ∀ k : Nat, (k : Int) < nY → 0 ≤ gY k ∧ gY k ≤ 39 := SG_39 (by assumption) (by assumption) (by omega)
    refine wp_of e291 c291_19 (rw_aload_n (pc' := 20) (v := .ref r0) rfl rfl rfl ?_)
    have k1168 : H1143 r0 32 = H r0 32 := (wq_u_j e1144 rfl)
    refine wp_of e291 c291_20 (xg_I (pc' := 23) lf_9_340 w1145 g0 sh_42 (by decide) (by decide) ty_42_32 rfl rfl (fun b1169 b1170 => ?_))
    refine wp_of e291 c291_23 (rw_i2l (pc' := 24) rfl ⟨Int.le_trans (by decide) b1169, b1170⟩ ?_)
    refine wp_of e291 c291_24 (rw_lstore_n (pc' := 25) (z := H1143 r0 32) (L' := [(1, vL (H1143 r0 32)), (0, .ref r0)]) rfl rfl rfl ?_)
    refine wp_of e291 c291_25 (rw_iconst (pc' := 26) rfl ?_)
    refine wp_of e291 c291_26 (rw_istore_n (pc' := 27) (z := 0) (L' := [(3, vI 0), (1, vL (H1143 r0 32)), (0, .ref r0)]) rfl rfl rfl ?_)
    have lp1257 : ∀ (n1258 : Nat) (v1260 : Int) (v1261 : Int), (0 ≤ v1260 ∧ v1260 ≤ 6) → ((-9223372036854775808) ≤ v1261 ∧ v1261 ≤ 9223372036854775807) → (v1260 ≤ nY) → (v1261 = xim cY gY (v1260).toNat) → (6 - v1260).toNat = n1258 → wp kt 2 291 27 [(3, vI v1260), (1, vL v1261), (0, .ref r0)] [] T H1143 (uq_291 r0 e d nY gY cY T H) := by
      intro n1258
      induction n1258 using Nat.strongRecOn with
      | _ n1258 ih1259 =>
        intro v1260 v1261 b1264 b1265 x1267 x1268 m1266
        refine wp_of e291 c291_27 (rw_iload_n (pc' := 28) (z := v1260) rfl rfl ?_)
        refine wp_of e291 c291_28 (rw_aload_n (pc' := 29) (v := .ref r0) rfl rfl rfl ?_)
        refine wp_of e291 c291_29 (xg_K (pc' := 32) lf_9_337 w1145 g0 sh_42 (by decide) (by decide) rfl q1150 rfl ?_)
        refine wp_of e291 c291_32 (xg_I (pc' := 35) lf_9_188 w1145 g1151 sh_54 (by decide) (by decide) ty_54_3 rfl rfl (fun b1269 b1270 => ?_))
        refine wp_of e291 c291_35 (rw_icmp_ge (p1 := 58) (p2 := 38) (by decide) rfl ⟨Int.le_trans (by decide) b1264.1, Int.le_trans b1264.2 (by decide)⟩ ⟨Int.le_trans (by decide) b1269, Int.le_trans b1270 (by decide)⟩ (fun c1271 => ?_) (fun c1271 => ?_))
        · refine wp_of e291 c291_58 (rw_aload_n (pc' := 59) (v := .ref r0) rfl rfl rfl ?_)
          refine wp_of e291 c291_59 (rw_lload_n (pc' := 60) (z := v1261) rfl rfl ?_)
          refine wp_of e291 c291_60 (xc_V (pc' := 63) (r := r0) (as := [vL v1261]) (st := []) (lm_9_380) rfl rfl (Nat.le_of_ble_eq_true rfl) w1145 g0 sh_42 (by decide) rfl (by decide) (u_221  w1145 g0 ⟨b1265.1, b1265.2⟩) (fun R1272 T1273 H1274 p1275 => ?_))
          obtain ⟨e1276, w1278, f1279, z1280, e1277, b1281, p1282⟩ := p1275
          subst e1276
          subst e1277
          obtain ⟨a1283, a1284, a1285⟩ := p1282
          have f1286 := f1146.tr f1279 rfl
          show wp _ _ 291 63 [(3, vI v1260), (1, vL v1261), (0, .ref r0)] [vL z1280] _ H1274 _
          exact wp_lreturn e291 c291_63 rfl ⟨rfl, w1278, f1286, z1280, rfl, ⟨b1281.1, b1281.2⟩, (Or.inr ⟨by omega, by rw [show (nY).toNat = (v1260).toNat by omega]; assumption⟩)⟩
        · have _gk := _gb (v1260).toNat (by omega)
          have _ib := xim_b (c := cY) (by omega) _gb (v1260).toNat (by omega)
          have _pk := pw40_5 (k := (v1260).toNat) (by omega)
          refine wp_of e291 c291_38 (rw_ldc2 (pc' := 41) (z := 40) rfl rfl rfl ?_)
          refine wp_of e291 c291_41 (rw_lload_n (pc' := 42) (z := v1261) rfl rfl ?_)
          refine wp_of e291 c291_42 (rw_lmulw (pc' := 43) rfl ?_)
          obtain ⟨v1287, e1288⟩ : ∃ x : Int, x = wl_w (40 * v1261) := ⟨_, rfl⟩
          rw [← e1288]
          have b1289 : -9223372036854775808 ≤ v1287 ∧ v1287 ≤ 9223372036854775807 := by
            rw [e1288]
            exact wL_w _
          have b1290 : (-9223372036854775808 ≤ 40 * v1261 ∧ 40 * v1261 ≤ 9223372036854775807) → v1287 = 40 * v1261 := fun h => by rw [e1288]; exact wl_w_id h
          refine wp_of e291 c291_43 (rw_aload_n (pc' := 44) (v := .ref r0) rfl rfl rfl ?_)
          refine wp_of e291 c291_44 (xg_R (pc' := 47) lf_9_36 w1145 g0 sh_42 (by decide) (by decide) ty_42_26 rfl rfl (fun r1291 q1292 g1293 => ?_))
          refine wp_of e291 c291_47 (rw_iload_n (pc' := 48) (z := v1260) rfl rfl ?_)
          refine wp_of e291 c291_48 (xa_I (so := 0) (pc' := 49) w1145 g1293 sh_50 (by decide) (ty_50 _) (b1264.1) (by omega) rfl (fun b1294 b1295 => ?_))
          have h1296 : RY T H1143 r0 nY gY cY := (RY_fr hW g0 ((wfr.rf (l := [(42, 0)])).put' e1144 g0 rfl) rfl hRY_r0)
          have := DA_at (h1296).1 q1292 (k := (v1260.toNat)) (by omega)
          refine wp_of e291 c291_49 (rw_i2l (pc' := 50) rfl ⟨Int.le_trans (by decide) b1294, Int.le_trans b1295 (by decide)⟩ ?_)
          refine wp_of e291 c291_50 (rw_laddw (pc' := 51) rfl ?_)
          obtain ⟨v1297, e1298⟩ : ∃ x : Int, x = wl_w (v1287 + (H1143 r1291 (v1260.toNat))) := ⟨_, rfl⟩
          rw [← e1298]
          have b1299 : -9223372036854775808 ≤ v1297 ∧ v1297 ≤ 9223372036854775807 := by
            rw [e1298]
            exact wL_w _
          have b1300 : (-9223372036854775808 ≤ v1287 + (H1143 r1291 (v1260.toNat)) ∧ v1287 + (H1143 r1291 (v1260.toNat)) ≤ 9223372036854775807) → v1297 = v1287 + (H1143 r1291 (v1260.toNat)) := fun h => by rw [e1298]; exact wl_w_id h
          refine wp_of e291 c291_51 (rw_lstore_n (pc' := 52) (z := v1297) (L' := [(1, vL v1297), (3, vI v1260), (0, .ref r0)]) rfl rfl rfl ?_)
          have _q : v1297 = xim cY gY (v1260 + 1).toNat := by
            rw [show (v1260 + 1).toNat = (v1260).toNat + 1 by omega]
            show v1297 = xim cY gY (v1260).toNat * 40 + gY (v1260).toNat
            omega
          refine wp_of e291 c291_52 (rw_iinc (pc' := 55) (z := v1260) (L' := [(3, vI (v1260 + 1)), (1, vL v1297), (0, .ref r0)]) rfl rfl rfl rfl ?_)
          refine wp_of e291 c291_55 (rw_goto (p1 := 27) (by decide) ?_)
          exact wp_lc (ks := [3, 1, 0]) (wl_c rfl (wl_c rfl (wl_c rfl wl_n))) rfl (by decide) (ih1259 _ (by omega) (v1260 + 1) v1297 ⟨by omega, by omega⟩ ⟨b1299.1, b1299.2⟩ (by omega) (_q) rfl)
    exact wp_lc (ks := [3, 1, 0]) (wl_c rfl (wl_c rfl (wl_c rfl wl_n))) rfl (by decide) (lp1257 _ 0 (H1143 r0 32) ⟨by decide, by decide⟩ ⟨Int.le_trans (by decide) b1169, Int.le_trans b1170 (by decide)⟩ (by omega) (by show _ = cY; omega) rfl)
/-! StrikeAwakeModel.bothAsleep([I)I l -/
abbrev uq_235_l (r0 : Nat) (r1 : Nat) (pp : Nat) (e : xD) (d : xD) (g : Nat → Int) (T : wq_T) (H : wq_H) : Option Value → wq_T → wq_H → Prop := fun r T' H' => T = T' ∧ H = H' ∧ ∃ z : Int, some (vI z) = r ∧ (0 ≤ z ∧ z ≤ 16777215) ∧ (((z = xqu d g (d 0 3).toNat)))
set_option maxHeartbeats 4000000 in
theorem u_235_l {kt : Nat → Option mc_E} {T : wq_T} {H : wq_H} {r0 : Nat} {r1 : Nat} {pp : Nat} {e : xD} {d : xD} {g : Nat → Int} (hW : WT T H) (g0 : T.2.2.2 r0 = some 42) (g1 : T.2.2.2 r1 = some 51) (qpp : H r0 3 = (pp : Int)) (gpp : T.2.2.2 pp = some 54) (p0 : XW d) (p1 : SL d g) (p2 : XN d) (hRB_r0 : RB T H r0 e d) (hRR_r1 : RR T H r1 (d 0 3) g) : wpc kt 1 235 [.ref r0, .ref r1] T H (uq_235_l r0 r1 pp e d g T H) := by
  sorry
/-! StrikeAwakeModel.barredAt([II)I l -/
abbrev uq_239_l (r0 : Nat) (r1 : Nat) (a2 : Int) (pp : Nat) (e : xD) (d : xD) (g : Nat → Int) (T : wq_T) (H : wq_H) : Option Value → wq_T → wq_H → Prop := fun r T' H' => T = T' ∧ H = H' ∧ ∃ z : Int, some (vI z) = r ∧ (0 ≤ z ∧ z ≤ 24) ∧ (((XFB (xbh a2 (xvy e d g)) (d 0 2) 24 z)))
set_option maxHeartbeats 4000000 in
theorem u_239_l {kt : Nat → Option mc_E} {T : wq_T} {H : wq_H} {r0 : Nat} {r1 : Nat} {a2 : Int} {pp : Nat} {e : xD} {d : xD} {g : Nat → Int} (hW : WT T H) (g0 : T.2.2.2 r0 = some 42) (g1 : T.2.2.2 r1 = some 51) (i2 : 0 ≤ a2 ∧ a2 ≤ 16777215) (qpp : H r0 3 = (pp : Int)) (gpp : T.2.2.2 pp = some 54) (p0 : XW d) (p1 : SL d g) (p2 : ∀ h : Nat, d 0 0 ≤ (h : Int) → h < 24 → e 13 h = 0) (p3 : ∀ h : Nat, h < 24 → 0 ≤ e 13 h ∧ e 13 h ≤ 100) (hRB_r0 : RB T H r0 e d) (hRR_r1 : RR T H r1 (d 0 3) g) : wpc kt 4 239 [.ref r0, .ref r1, vI a2] T H (uq_239_l r0 r1 a2 pp e d g T H) := by
  sorry
