/-! what methods do (own work, written by wip/gen3/sx3.py) -/
/-! StrikeAwake.parish(I)I  -/
abbrev uq_11 (r0 : Nat) (a1 : Int) (tp : Nat) (rd : Nat) (cu : Nat) (dr : Nat) (B : Nat → Int) (y : Int) (T : wq_T) (H : wq_H) : Option Value → wq_T → wq_H → Prop := fun r T' H' => T = T' ∧ WT T H' ∧ wfr [(12, 9), (27, 7), (27, 8), (27, 9), (27, 10), (27, 11), (27, 12), (27, 13), (27, 14), (27, 15), (27, 16), (27, 17), (27, 18), (35, 6), (35, 7), (35, 8), (35, 9), (35, 10), (35, 11), (35, 12), (35, 13), (35, 14), (35, 15), (35, 16), (35, 17), (3, 1), (3, 2), (3, 3), (3, 4), (1, 6), (1, 7), (1, 8), (1, 9), (1, 10), (1, 11), (1, 12), (4, 0), (4, 1), (4, 2), (4, 3), (4, 4), (4, 5), (4, 6), (38, 999), (39, 999), (36, 999), (31, 999), (40, 999), (41, 999), (34, 999), (37, 999), (29, 999), (30, 999), (33, 999), (32, 999)] T H H' ∧ ∃ z : Int, some (vI z) = r ∧ ((-2147483648) ≤ z ∧ z ≤ 2147483647) ∧ (((z = -1) ∧ (a1 < 0 ∨ H r0 9 < a1) ∧ (H' r0 9 = H r0 9) ∧ (H' r0 10 = 2) ∧ (H' r0 6 = (cu : Int)) ∧ (H' r0 7 = (dr : Int)) ∧ (H' r0 8 = H r0 8) ∧ (H' r0 11 = H r0 11)) ∨ ((z = -1) ∧ (0 ≤ a1 ∧ a1 ≤ H r0 9) ∧ (H' r0 9 = 0) ∧ ((xparse B y).1.1 ≠ 0) ∧ (H' r0 10 = 4) ∧ (H' r0 11 = (xparse B y).1.1) ∧ (H' r0 12 = (xparse B y).1.2.1) ∧ (H' r0 6 = (cu : Int)) ∧ (H' r0 7 = (dr : Int)) ∧ (H' r0 8 = H r0 8)) ∨ ((0 ≤ z ∧ z ≤ 6) ∧ (0 ≤ a1 ∧ a1 ≤ H r0 9) ∧ (H' r0 9 = 0) ∧ ((xparse B y).1.1 = 0) ∧ (z = (xparse B y).2 0 3) ∧ (H' r0 10 = 0) ∧ (H' r0 6 = (dr : Int)) ∧ (H' r0 7 = (cu : Int)) ∧ (H' r0 8 = 1) ∧ (H' r0 11 = 0)))
set_option maxHeartbeats 4000000 in
theorem u_11 {kt : Nat → Option mc_E} {T : wq_T} {H : wq_H} {r0 : Nat} {a1 : Int} {tp : Nat} {rd : Nat} {cu : Nat} {dr : Nat} {B : Nat → Int} {y : Int} (hW : WT T H) (g0 : T.2.2.2 r0 = some 1) (i1 : (-2147483648) ≤ a1 ∧ a1 ≤ 2147483647) (qtp : H r0 0 = (tp : Int)) (gtp : T.2.2.2 tp = some 2) (qrd : H r0 1 = (rd : Int)) (grd : T.2.2.2 rd = some 3) (qcu : H r0 6 = (cu : Int)) (gcu : T.2.2.2 cu = some 27) (qdr : H r0 7 = (dr : Int)) (gdr : T.2.2.2 dr = some 27) (p0 : a1 = y) (hTP_tp : TP T H tp B) (hDD_dr : DD T H dr ) : wpc kt 8 11 [.ref r0, vI a1] T H (uq_11 r0 a1 tp rd cu dr B y T H) := by
  refine wp_enter e11 (Nat.le_of_ble_eq_true rfl) rfl ?_
  have f0 : wfr [(12, 9), (27, 7), (27, 8), (27, 9), (27, 10), (27, 11), (27, 12), (27, 13), (27, 14), (27, 15), (27, 16), (27, 17), (27, 18), (35, 6), (35, 7), (35, 8), (35, 9), (35, 10), (35, 11), (35, 12), (35, 13), (35, 14), (35, 15), (35, 16), (35, 17), (3, 1), (3, 2), (3, 3), (3, 4), (1, 6), (1, 7), (1, 8), (1, 9), (1, 10), (1, 11), (1, 12), (4, 0), (4, 1), (4, 2), (4, 3), (4, 4), (4, 5), (4, 6), (38, 999), (39, 999), (36, 999), (31, 999), (40, 999), (41, 999), (34, 999), (37, 999), (29, 999), (30, 999), (33, 999), (32, 999)] T H H := wfr.rf
  show wp _ _ 11 0 [(0, .ref r0), (1, vI a1)] [] _ H _
  have b182 : 0 ≤ H r0 9 ∧ H r0 9 ≤ 900 := hW.box g0 (n := 13) rfl (by decide) rfl
  have b183 : 0 ≤ H r0 8 ∧ H r0 8 ≤ 1 := hW.box g0 (n := 13) rfl (by decide) rfl
  have b184 : (-2147483648) ≤ H r0 11 ∧ H r0 11 ≤ 2147483647 := hW.box g0 (n := 13) rfl (by decide) rfl
  have _y1 : (xparse B a1).1.1 = (xparse B y).1.1 := by rw [p0]
  have _y2 : (xparse B a1).1.2.1 = (xparse B y).1.2.1 := by rw [p0]
  have _y3 : (xparse B a1).2 0 3 = (xparse B y).2 0 3 := by rw [p0]
  refine wp_of e11 c11_0 (rw_iload_n (pc' := 1) (z := a1) rfl rfl ?_)
  refine wp_of e11 c11_1 (rw_if_lt (p1 := 12) (p2 := 4) (by decide) rfl ⟨by omega, by omega⟩ (fun c185 => ?_) (fun c185 => ?_))
  · refine wp_of e11 c11_12 (rw_aload_n (pc' := 13) (v := .ref r0) rfl rfl rfl ?_)
    refine wp_of e11 c11_13 (rw_iconst (pc' := 14) rfl ?_)
    refine wp_of e11 c11_14 (xc_V (pc' := 17) (r := r0) (as := [vI 2]) (st := []) (lm_0_70) rfl rfl (Nat.le_of_ble_eq_true rfl) hW g0 sh_1 (by decide) rfl (by decide) (u_12  hW g0 ⟨by omega, by omega⟩) (fun R186 T187 H188 p189 => ?_))
    obtain ⟨e190, w192, f193, z194, e191, b195, p196⟩ := p189
    subst e190
    subst e191
    obtain ⟨a197, a198⟩ := p196
    have f199 := f0.tr f193 rfl
    show wp _ _ 11 17 [(0, .ref r0), (1, vI a1)] [vI z194] _ H188 _
    have k200 : H188 r0 6 = H r0 6 := (f193 r0 6 _ g0 rfl)
    have q201 : H188 r0 6 = (cu : Int) := k200.trans qcu
    have k202 : H188 r0 7 = H r0 7 := (f193 r0 7 _ g0 rfl)
    have q203 : H188 r0 7 = (dr : Int) := k202.trans qdr
    have k204 : H188 r0 8 = H r0 8 := (f193 r0 8 _ g0 rfl)
    have k205 : H188 r0 9 = H r0 9 := (f193 r0 9 _ g0 rfl)
    have k206 : H188 r0 11 = H r0 11 := (f193 r0 11 _ g0 rfl)
    exact wp_ireturn e11 c11_17 rfl ⟨rfl, w192, f199, z194, rfl, ⟨by omega, by omega⟩, (Or.inl ⟨by omega, by omega, by omega, by omega, by omega, by omega, by omega, by omega⟩)⟩
  · refine wp_of e11 c11_4 (rw_iload_n (pc' := 5) (z := a1) rfl rfl ?_)
    refine wp_of e11 c11_5 (rw_aload_n (pc' := 6) (v := .ref r0) rfl rfl rfl ?_)
    refine wp_of e11 c11_6 (xg_I (pc' := 9) lf_0_62 hW g0 sh_1 (by decide) (by decide) ty_1_9 rfl rfl (fun b207 b208 => ?_))
    refine wp_of e11 c11_9 (rw_icmp_le (p1 := 18) (p2 := 12) (by decide) rfl ⟨by omega, by omega⟩ ⟨by omega, by omega⟩ (fun c209 => ?_) (fun c209 => ?_))
    · refine wp_of e11 c11_18 (rw_aload_n (pc' := 19) (v := .ref r0) rfl rfl rfl ?_)
      refine wp_of e11 c11_19 (rw_iconst (pc' := 20) rfl ?_)
      refine wp_of e11 c11_20 (xp_I (pc' := 23) lf_0_62 hW g0 sh_1 (by decide) (by decide) ty_1_9 rfl rfl (by omega) (by omega) ⟨by omega, by omega⟩ rfl (fun H210 e211 w212 => ?_))
      have f213 := f0.put' e211 g0 rfl
      have k214 : H210 r0 9 = 0 := wq_u_s e211
      refine wp_of e11 c11_23 (rw_aload_n (pc' := 24) (v := .ref r0) rfl rfl rfl ?_)
      have k215 : H210 r0 1 = H r0 1 := (wq_u_j e211 rfl)
      have q216 : H210 r0 1 = (rd : Int) := k215.trans qrd
      refine wp_of e11 c11_24 (xg_K (pc' := 27) lf_0_16 w212 g0 sh_1 (by decide) (by decide) rfl q216 rfl ?_)
      refine wp_of e11 c11_27 (rw_aload_n (pc' := 28) (v := .ref r0) rfl rfl rfl ?_)
      have k217 : H210 r0 0 = H r0 0 := (wq_u_j e211 rfl)
      have q218 : H210 r0 0 = (tp : Int) := k217.trans qtp
      refine wp_of e11 c11_28 (xg_K (pc' := 31) lf_0_9 w212 g0 sh_1 (by decide) (by decide) rfl q218 rfl ?_)
      refine wp_of e11 c11_31 (rw_iload_n (pc' := 32) (z := a1) rfl rfl ?_)
      refine wp_of e11 c11_32 (rw_aload_n (pc' := 33) (v := .ref r0) rfl rfl rfl ?_)
      have k219 : H210 r0 7 = H r0 7 := (wq_u_j e211 rfl)
      have q220 : H210 r0 7 = (dr : Int) := k219.trans qdr
      refine wp_of e11 c11_33 (xg_K (pc' := 36) lf_0_55 w212 g0 sh_1 (by decide) (by decide) rfl q220 rfl ?_)
      obtain ⟨r221, q222, g223⟩ := w212.ref grd (t' := 4) (n := 5) (j := 0) (p := 0) (q := 0) rfl (by decide) rfl
      have h224 : TP T H210 tp B := (TP_fr hW gtp ((wfr.rf (l := [(1, 9)])).put' e211 g0 rfl) rfl hTP_tp)
      have h225 : DD T H210 dr  := (DD_fr hW gdr ((wfr.rf (l := [(1, 9)])).put' e211 g0 rfl) rfl hDD_dr)
      refine wp_of e11 c11_36 (xc_V (pc' := 39) (r := rd) (as := [.ref tp, vI a1, .ref dr]) (st := []) (lm_0_74) rfl rfl (Nat.le_of_ble_eq_true rfl) w212 grd sh_3 (by decide) rfl (by decide) (u_13 (B := B) w212 grd gtp ⟨by omega, by omega⟩ gdr q222 g223 h224 h225) (fun R226 T227 H228 p229 => ?_))
      obtain ⟨e230, w232, f233, z234, e231, b235, p236⟩ := p229
      subst e230
      subst e231
      rcases p236 with ⟨a237, a238, a239, a240⟩ | ⟨a241, a242, a243, a244⟩
      · have f245 := f213.tr f233 rfl
        show wp _ _ 11 39 [(0, .ref r0), (1, vI a1)] [vI z234] _ H228 _
        have u246 := DC_k a240
        refine wp_of e11 c11_39 (rw_istore_n (pc' := 40) (z := z234) (L' := [(2, vI z234), (0, .ref r0), (1, vI a1)]) rfl rfl rfl ?_)
        refine wp_of e11 c11_40 (rw_aload_n (pc' := 41) (v := .ref r0) rfl rfl rfl ?_)
        refine wp_of e11 c11_41 (rw_aload_n (pc' := 42) (v := .ref r0) rfl rfl rfl ?_)
        have k247 : H228 r0 1 = H210 r0 1 := (f233 r0 1 _ g0 rfl)
        have q248 : H228 r0 1 = (rd : Int) := k247.trans q216
        refine wp_of e11 c11_42 (xg_K (pc' := 45) lf_0_16 w232 g0 sh_1 (by decide) (by decide) rfl q248 rfl ?_)
        refine wp_of e11 c11_45 (xg_I (pc' := 48) lf_0_78 w232 grd sh_3 (by decide) (by decide) ty_3_3 rfl rfl (fun b249 b250 => ?_))
        refine wp_of e11 c11_48 (xp_I (pc' := 51) lf_0_81 w232 g0 sh_1 (by decide) (by decide) ty_1_11 rfl rfl (by omega) (by omega) ⟨by omega, by omega⟩ rfl (fun H251 e252 w253 => ?_))
        have f254 := f245.put' e252 g0 rfl
        have k255 : H251 r0 11 = H228 rd 3 := wq_u_s e252
        refine wp_of e11 c11_51 (rw_aload_n (pc' := 52) (v := .ref r0) rfl rfl rfl ?_)
        refine wp_of e11 c11_52 (rw_aload_n (pc' := 53) (v := .ref r0) rfl rfl rfl ?_)
        have k256 : H251 r0 1 = H228 r0 1 := (wq_u_j e252 rfl)
        have q257 : H251 r0 1 = (rd : Int) := k256.trans q248
        refine wp_of e11 c11_53 (xg_K (pc' := 56) lf_0_16 w253 g0 sh_1 (by decide) (by decide) rfl q257 rfl ?_)
        refine wp_of e11 c11_56 (xg_I (pc' := 59) lf_0_84 w253 grd sh_3 (by decide) (by decide) ty_3_4 rfl rfl (fun b258 b259 => ?_))
        refine wp_of e11 c11_59 (xp_I (pc' := 62) lf_0_87 w253 g0 sh_1 (by decide) (by decide) ty_1_12 rfl rfl (by omega) (by omega) ⟨by omega, by omega⟩ rfl (fun H260 e261 w262 => ?_))
        have f263 := f254.put' e261 g0 rfl
        have k264 : H260 r0 12 = H251 rd 4 := wq_u_s e261
        refine wp_of e11 c11_62 (rw_iload_n (pc' := 63) (z := z234) rfl rfl ?_)
        refine wp_of e11 c11_63 (rw_if_ne (p1 := 72) (p2 := 66) (by decide) rfl ⟨by omega, by omega⟩ (fun c265 => ?_) (fun c265 => ?_))
        · refine wp_of e11 c11_72 (rw_aload_n (pc' := 73) (v := .ref r0) rfl rfl rfl ?_)
          have k266 : H260 r0 7 = H210 r0 7 := ((wq_u_j e261 rfl).trans ((wq_u_j e252 rfl).trans (f233 r0 7 _ g0 rfl)))
          have q267 : H260 r0 7 = (dr : Int) := k266.trans q220
          refine wp_of e11 c11_73 (xg_K (pc' := 76) lf_0_55 w262 g0 sh_1 (by decide) (by decide) rfl q267 rfl ?_)
          refine wp_of e11 c11_76 (xc_V (pc' := 79) (r := dr) (as := []) (st := []) (lm_0_90) rfl rfl (Nat.le_of_ble_eq_true rfl) w262 gdr sh_27 (by decide) rfl (by decide) (s_44 w262 gdr) (fun R268 T269 H270 p271 => ?_))
          obtain ⟨e272, w274, f275, e273⟩ := p271
          subst e272
          subst e273
          have f276 := f263.tr f275 rfl
          show wp _ _ 11 79 [(2, vI z234), (0, .ref r0), (1, vI a1)] [] _ H270 _
          refine wp_of e11 c11_79 (rw_aload_n (pc' := 80) (v := .ref r0) rfl rfl rfl ?_)
          have k277 : H270 r0 6 = H r0 6 := ((f275 r0 6 _ g0 rfl).trans ((wq_u_j e261 rfl).trans ((wq_u_j e252 rfl).trans ((f233 r0 6 _ g0 rfl).trans (wq_u_j e211 rfl)))))
          have q278 : H270 r0 6 = (cu : Int) := k277.trans qcu
          refine wp_of e11 c11_80 (xg_K (pc' := 83) lf_0_51 w274 g0 sh_1 (by decide) (by decide) rfl q278 rfl ?_)
          refine wp_of e11 c11_83 (rw_astore_n (pc' := 84) (v := .ref cu) (L' := [(3, .ref cu), (2, vI z234), (0, .ref r0), (1, vI a1)]) rfl rfl rfl rfl ?_)
          refine wp_of e11 c11_84 (rw_aload_n (pc' := 85) (v := .ref r0) rfl rfl rfl ?_)
          refine wp_of e11 c11_85 (rw_aload_n (pc' := 86) (v := .ref r0) rfl rfl rfl ?_)
          have k279 : H270 r0 7 = H260 r0 7 := (f275 r0 7 _ g0 rfl)
          have q280 : H270 r0 7 = (dr : Int) := k279.trans q267
          refine wp_of e11 c11_86 (xg_K (pc' := 89) lf_0_55 w274 g0 sh_1 (by decide) (by decide) rfl q280 rfl ?_)
          refine wp_of e11 c11_89 (xp_R (pc' := 92) lf_0_51 w274 g0 sh_1 (by decide) (by decide) rfl rfl (wok_2 ty_1_6 gdr) rfl (fun H281 e282 w283 => ?_))
          have f284 := f276.put' e282 g0 rfl
          have q285 : H281 r0 6 = (dr : Int) := wq_u_s e282
          refine wp_of e11 c11_92 (rw_aload_n (pc' := 93) (v := .ref r0) rfl rfl rfl ?_)
          refine wp_of e11 c11_93 (rw_aload_n (pc' := 94) (v := .ref cu) rfl rfl rfl ?_)
          refine wp_of e11 c11_94 (xp_R (pc' := 97) lf_0_55 w283 g0 sh_1 (by decide) (by decide) rfl rfl (wok_2 ty_1_7 gcu) rfl (fun H286 e287 w288 => ?_))
          have f289 := f284.put' e287 g0 rfl
          have q290 : H286 r0 7 = (cu : Int) := wq_u_s e287
          refine wp_of e11 c11_97 (rw_aload_n (pc' := 98) (v := .ref r0) rfl rfl rfl ?_)
          refine wp_of e11 c11_98 (rw_iconst (pc' := 99) rfl ?_)
          refine wp_of e11 c11_99 (xp_Z (pc' := 102) lf_0_58 w288 g0 sh_1 (by decide) (by decide) ty_1_8 rfl rfl (by omega) (by omega) rfl (fun H291 e292 w293 => ?_))
          have f294 := f289.put' e292 g0 rfl
          have k295 : H291 r0 8 = 1 := wq_u_s e292
          refine wp_of e11 c11_102 (rw_aload_n (pc' := 103) (v := .ref r0) rfl rfl rfl ?_)
          refine wp_of e11 c11_103 (xg_R (pc' := 106) lf_0_30 w293 g0 sh_1 (by decide) (by decide) ty_1_3 rfl rfl (fun r296 q297 g298 => ?_))
          refine wp_of e11 c11_106 (xc_V (pc' := 109) (r := r296) (as := []) (st := []) (lm_0_93) rfl rfl (Nat.le_of_ble_eq_true rfl) w293 g298 sh_12 (by decide) rfl (by decide) (s_50 w293 g298) (fun R299 T300 H301 p302 => ?_))
          obtain ⟨e303, w305, f306, e304⟩ := p302
          subst e303
          subst e304
          have f307 := f294.tr f306 rfl
          show wp _ _ 11 109 [(3, .ref cu), (2, vI z234), (0, .ref r0), (1, vI a1)] [] _ H301 _
          refine wp_of e11 c11_109 (rw_aload_n (pc' := 110) (v := .ref r0) rfl rfl rfl ?_)
          refine wp_of e11 c11_110 (rw_aload_n (pc' := 111) (v := .ref r0) rfl rfl rfl ?_)
          have k308 : H301 r0 6 = H281 r0 6 := ((f306 r0 6 _ g0 rfl).trans ((wq_u_j e292 rfl).trans (wq_u_j e287 rfl)))
          have q309 : H301 r0 6 = (dr : Int) := k308.trans q285
          refine wp_of e11 c11_111 (xg_K (pc' := 114) lf_0_51 w305 g0 sh_1 (by decide) (by decide) rfl q309 rfl ?_)
          have k310 : H301 dr 10 = H228 dr 10 := ((f306 dr 10 _ gdr rfl).trans ((wq_u_t e292 g0 gdr rfl 10).trans ((wq_u_t e287 g0 gdr rfl 10).trans ((wq_u_t e282 g0 gdr rfl 10).trans ((f275 dr 10 _ gdr rfl).trans ((wq_u_t e261 g0 gdr rfl 10).trans (wq_u_t e252 g0 gdr rfl 10)))))))
          refine wp_of e11 c11_114 (xg_I (pc' := 117) lf_0_96 w305 gdr sh_27 (by decide) (by decide) ty_27_10 rfl rfl (fun b311 b312 => ?_))
          refine wp_of e11 c11_117 (xc_V (pc' := 120) (r := r0) (as := [vI (H301 dr 10)]) (st := []) (lm_0_99) rfl rfl (Nat.le_of_ble_eq_true rfl) w305 g0 sh_1 (by decide) rfl (by decide) (u_51  w305 g0 ⟨by omega, by omega⟩) (fun R313 T314 H315 p316 => ?_))
          obtain ⟨e317, w319, f320, z321, e318, b322, p323⟩ := p316
          subst e317
          subst e318
          obtain ⟨a324, a325⟩ := p323
          have f326 := f307.tr f320 rfl
          show wp _ _ 11 120 [(3, .ref cu), (2, vI z234), (0, .ref r0), (1, vI a1)] [vI z321] _ H315 _
          have k327 : H315 r0 6 = H301 r0 6 := (f320 r0 6 _ g0 rfl)
          have q328 : H315 r0 6 = (dr : Int) := k327.trans q309
          have k329 : H315 r0 7 = H286 r0 7 := ((f320 r0 7 _ g0 rfl).trans ((f306 r0 7 _ g0 rfl).trans (wq_u_j e292 rfl)))
          have q330 : H315 r0 7 = (cu : Int) := k329.trans q290
          have k331 : H315 r0 8 = H291 r0 8 := ((f320 r0 8 _ g0 rfl).trans (f306 r0 8 _ g0 rfl))
          have k332 : H315 r0 9 = H210 r0 9 := ((f320 r0 9 _ g0 rfl).trans ((f306 r0 9 _ g0 rfl).trans ((wq_u_j e292 rfl).trans ((wq_u_j e287 rfl).trans ((wq_u_j e282 rfl).trans ((f275 r0 9 _ g0 rfl).trans ((wq_u_j e261 rfl).trans ((wq_u_j e252 rfl).trans (f233 r0 9 _ g0 rfl)))))))))
          have k333 : H315 r0 11 = H251 r0 11 := ((f320 r0 11 _ g0 rfl).trans ((f306 r0 11 _ g0 rfl).trans ((wq_u_j e292 rfl).trans ((wq_u_j e287 rfl).trans ((wq_u_j e282 rfl).trans ((f275 r0 11 _ g0 rfl).trans (wq_u_j e261 rfl)))))))
          have k334 : H315 r0 12 = H260 r0 12 := ((f320 r0 12 _ g0 rfl).trans ((f306 r0 12 _ g0 rfl).trans ((wq_u_j e292 rfl).trans ((wq_u_j e287 rfl).trans ((wq_u_j e282 rfl).trans (f275 r0 12 _ g0 rfl))))))
          exact wp_ireturn e11 c11_120 rfl ⟨rfl, w319, f326, z321, rfl, ⟨by omega, by omega⟩, (Or.inr (Or.inr ⟨by omega, by omega, by omega, by omega, by omega, by omega, by omega, by omega, by omega, by omega⟩))⟩
        · exfalso
          omega
      · have f335 := f213.tr f233 rfl
        show wp _ _ 11 39 [(0, .ref r0), (1, vI a1)] [vI z234] _ H228 _
        refine wp_of e11 c11_39 (rw_istore_n (pc' := 40) (z := z234) (L' := [(2, vI z234), (0, .ref r0), (1, vI a1)]) rfl rfl rfl ?_)
        refine wp_of e11 c11_40 (rw_aload_n (pc' := 41) (v := .ref r0) rfl rfl rfl ?_)
        refine wp_of e11 c11_41 (rw_aload_n (pc' := 42) (v := .ref r0) rfl rfl rfl ?_)
        have k336 : H228 r0 1 = H210 r0 1 := (f233 r0 1 _ g0 rfl)
        have q337 : H228 r0 1 = (rd : Int) := k336.trans q216
        refine wp_of e11 c11_42 (xg_K (pc' := 45) lf_0_16 w232 g0 sh_1 (by decide) (by decide) rfl q337 rfl ?_)
        refine wp_of e11 c11_45 (xg_I (pc' := 48) lf_0_78 w232 grd sh_3 (by decide) (by decide) ty_3_3 rfl rfl (fun b338 b339 => ?_))
        refine wp_of e11 c11_48 (xp_I (pc' := 51) lf_0_81 w232 g0 sh_1 (by decide) (by decide) ty_1_11 rfl rfl (by omega) (by omega) ⟨by omega, by omega⟩ rfl (fun H340 e341 w342 => ?_))
        have f343 := f335.put' e341 g0 rfl
        have k344 : H340 r0 11 = H228 rd 3 := wq_u_s e341
        refine wp_of e11 c11_51 (rw_aload_n (pc' := 52) (v := .ref r0) rfl rfl rfl ?_)
        refine wp_of e11 c11_52 (rw_aload_n (pc' := 53) (v := .ref r0) rfl rfl rfl ?_)
        have k345 : H340 r0 1 = H228 r0 1 := (wq_u_j e341 rfl)
        have q346 : H340 r0 1 = (rd : Int) := k345.trans q337
        refine wp_of e11 c11_53 (xg_K (pc' := 56) lf_0_16 w342 g0 sh_1 (by decide) (by decide) rfl q346 rfl ?_)
        have k347 : H340 rd 4 = H228 rd 4 := (wq_u_t e341 g0 grd rfl 4)
        refine wp_of e11 c11_56 (xg_I (pc' := 59) lf_0_84 w342 grd sh_3 (by decide) (by decide) ty_3_4 rfl rfl (fun b348 b349 => ?_))
        refine wp_of e11 c11_59 (xp_I (pc' := 62) lf_0_87 w342 g0 sh_1 (by decide) (by decide) ty_1_12 rfl rfl (by omega) (by omega) ⟨by omega, by omega⟩ rfl (fun H350 e351 w352 => ?_))
        have f353 := f343.put' e351 g0 rfl
        have k354 : H350 r0 12 = H340 rd 4 := wq_u_s e351
        refine wp_of e11 c11_62 (rw_iload_n (pc' := 63) (z := z234) rfl rfl ?_)
        refine wp_of e11 c11_63 (rw_if_ne (p1 := 72) (p2 := 66) (by decide) rfl ⟨by omega, by omega⟩ (fun c355 => ?_) (fun c355 => ?_))
        · exfalso
          omega
        · refine wp_of e11 c11_66 (rw_aload_n (pc' := 67) (v := .ref r0) rfl rfl rfl ?_)
          refine wp_of e11 c11_67 (rw_iconst (pc' := 68) rfl ?_)
          refine wp_of e11 c11_68 (xc_V (pc' := 71) (r := r0) (as := [vI 4]) (st := []) (lm_0_70) rfl rfl (Nat.le_of_ble_eq_true rfl) w352 g0 sh_1 (by decide) rfl (by decide) (u_12  w352 g0 ⟨by omega, by omega⟩) (fun R356 T357 H358 p359 => ?_))
          obtain ⟨e360, w362, f363, z364, e361, b365, p366⟩ := p359
          subst e360
          subst e361
          obtain ⟨a367, a368⟩ := p366
          have f369 := f353.tr f363 rfl
          show wp _ _ 11 71 [(2, vI z234), (0, .ref r0), (1, vI a1)] [vI z364] _ H358 _
          have k370 : H358 r0 6 = H r0 6 := ((f363 r0 6 _ g0 rfl).trans ((wq_u_j e351 rfl).trans ((wq_u_j e341 rfl).trans ((f233 r0 6 _ g0 rfl).trans (wq_u_j e211 rfl)))))
          have q371 : H358 r0 6 = (cu : Int) := k370.trans qcu
          have k372 : H358 r0 7 = H210 r0 7 := ((f363 r0 7 _ g0 rfl).trans ((wq_u_j e351 rfl).trans ((wq_u_j e341 rfl).trans (f233 r0 7 _ g0 rfl))))
          have q373 : H358 r0 7 = (dr : Int) := k372.trans q220
          have k374 : H358 r0 8 = H r0 8 := ((f363 r0 8 _ g0 rfl).trans ((wq_u_j e351 rfl).trans ((wq_u_j e341 rfl).trans ((f233 r0 8 _ g0 rfl).trans (wq_u_j e211 rfl)))))
          have k375 : H358 r0 9 = H210 r0 9 := ((f363 r0 9 _ g0 rfl).trans ((wq_u_j e351 rfl).trans ((wq_u_j e341 rfl).trans (f233 r0 9 _ g0 rfl))))
          have k376 : H358 r0 11 = H340 r0 11 := ((f363 r0 11 _ g0 rfl).trans (wq_u_j e351 rfl))
          have k377 : H358 r0 12 = H350 r0 12 := (f363 r0 12 _ g0 rfl)
          exact wp_ireturn e11 c11_71 rfl ⟨rfl, w362, f369, z364, rfl, ⟨by omega, by omega⟩, (Or.inr (Or.inl ⟨by omega, by omega, by omega, by omega, by omega, by omega, by omega, by omega, by omega, by omega⟩))⟩
    · refine wp_of e11 c11_12 (rw_aload_n (pc' := 13) (v := .ref r0) rfl rfl rfl ?_)
      refine wp_of e11 c11_13 (rw_iconst (pc' := 14) rfl ?_)
      refine wp_of e11 c11_14 (xc_V (pc' := 17) (r := r0) (as := [vI 2]) (st := []) (lm_0_70) rfl rfl (Nat.le_of_ble_eq_true rfl) hW g0 sh_1 (by decide) rfl (by decide) (u_12  hW g0 ⟨by omega, by omega⟩) (fun R378 T379 H380 p381 => ?_))
      obtain ⟨e382, w384, f385, z386, e383, b387, p388⟩ := p381
      subst e382
      subst e383
      obtain ⟨a389, a390⟩ := p388
      have f391 := f0.tr f385 rfl
      show wp _ _ 11 17 [(0, .ref r0), (1, vI a1)] [vI z386] _ H380 _
      have k392 : H380 r0 6 = H r0 6 := (f385 r0 6 _ g0 rfl)
      have q393 : H380 r0 6 = (cu : Int) := k392.trans qcu
      have k394 : H380 r0 7 = H r0 7 := (f385 r0 7 _ g0 rfl)
      have q395 : H380 r0 7 = (dr : Int) := k394.trans qdr
      have k396 : H380 r0 8 = H r0 8 := (f385 r0 8 _ g0 rfl)
      have k397 : H380 r0 9 = H r0 9 := (f385 r0 9 _ g0 rfl)
      have k398 : H380 r0 11 = H r0 11 := (f385 r0 11 _ g0 rfl)
      exact wp_ireturn e11 c11_17 rfl ⟨rfl, w384, f391, z386, rfl, ⟨by omega, by omega⟩, (Or.inl ⟨by omega, by omega, by omega, by omega, by omega, by omega, by omega, by omega⟩)⟩
/-! StrikeAwake.fault()I  -/
abbrev uq_52 (r0 : Nat) (T : wq_T) (H : wq_H) : Option Value → wq_T → wq_H → Prop := fun r T' H' => T = T' ∧ H = H' ∧ ∃ z : Int, some (vI z) = r ∧ ((-2147483648) ≤ z ∧ z ≤ 2147483647) ∧ (((z = H r0 11)))
set_option maxHeartbeats 4000000 in
theorem u_52 {kt : Nat → Option mc_E} {T : wq_T} {H : wq_H} {r0 : Nat} (hW : WT T H) (g0 : T.2.2.2 r0 = some 1) : wpc kt 1 52 [.ref r0] T H (uq_52 r0 T H) := by
  refine wp_enter e52 (Nat.le_of_ble_eq_true rfl) rfl ?_
  show wp _ _ 52 0 [(0, .ref r0)] [] _ H _
  refine wp_of e52 c52_0 (rw_aload_n (pc' := 1) (v := .ref r0) rfl rfl rfl ?_)
  refine wp_of e52 c52_1 (xg_I (pc' := 4) lf_0_81 hW g0 sh_1 (by decide) (by decide) ty_1_11 rfl rfl (fun b3 b4 => ?_))
  exact wp_ireturn e52 c52_4 rfl ⟨rfl, rfl, H r0 11, rfl, ⟨by omega, by omega⟩, (by omega)⟩
/-! StrikeAwake.deny(I)Z  -/
abbrev uq_63 (r0 : Nat) (a1 : Int) (T : wq_T) (H : wq_H) : Option Value → wq_T → wq_H → Prop := fun r T' H' => T = T' ∧ WT T H' ∧ wfr [(1, 10)] T H H' ∧ ∃ z : Int, some (vI z) = r ∧ (0 ≤ z ∧ z ≤ 1) ∧ (((z = 0) ∧ (H' r0 10 = a1)))
set_option maxHeartbeats 4000000 in
theorem u_63 {kt : Nat → Option mc_E} {T : wq_T} {H : wq_H} {r0 : Nat} {a1 : Int} (hW : WT T H) (g0 : T.2.2.2 r0 = some 1) (i1 : (-2147483648) ≤ a1 ∧ a1 ≤ 2147483647) : wpc kt 1 63 [.ref r0, vI a1] T H (uq_63 r0 a1 T H) := by
  refine wp_enter e63 (Nat.le_of_ble_eq_true rfl) rfl ?_
  have f0 : wfr [(1, 10)] T H H := wfr.rf
  show wp _ _ 63 0 [(0, .ref r0), (1, vI a1)] [] _ H _
  refine wp_of e63 c63_0 (rw_aload_n (pc' := 1) (v := .ref r0) rfl rfl rfl ?_)
  refine wp_of e63 c63_1 (rw_iload_n (pc' := 2) (z := a1) rfl rfl ?_)
  refine wp_of e63 c63_2 (xp_I (pc' := 5) lf_0_102 hW g0 sh_1 (by decide) (by decide) ty_1_10 rfl rfl (by omega) (by omega) ⟨by omega, by omega⟩ rfl (fun H6 e7 w8 => ?_))
  have f9 := f0.put' e7 g0 rfl
  have k10 : H6 r0 10 = a1 := wq_u_s e7
  refine wp_of e63 c63_5 (rw_iconst (pc' := 6) rfl ?_)
  exact wp_zreturn e63 c63_6 rfl (by omega) ⟨rfl, w8, f9, 0, rfl, ⟨by omega, by omega⟩, ⟨by omega, by omega⟩⟩
/-! StrikeAwake.grant()Z  -/
abbrev uq_64 (r0 : Nat) (T : wq_T) (H : wq_H) : Option Value → wq_T → wq_H → Prop := fun r T' H' => T = T' ∧ WT T H' ∧ wfr [(1, 10)] T H H' ∧ ∃ z : Int, some (vI z) = r ∧ (0 ≤ z ∧ z ≤ 1) ∧ (((z = 1) ∧ (H' r0 10 = 0)))
set_option maxHeartbeats 4000000 in
theorem u_64 {kt : Nat → Option mc_E} {T : wq_T} {H : wq_H} {r0 : Nat} (hW : WT T H) (g0 : T.2.2.2 r0 = some 1) : wpc kt 1 64 [.ref r0] T H (uq_64 r0 T H) := by
  refine wp_enter e64 (Nat.le_of_ble_eq_true rfl) rfl ?_
  have f0 : wfr [(1, 10)] T H H := wfr.rf
  show wp _ _ 64 0 [(0, .ref r0)] [] _ H _
  refine wp_of e64 c64_0 (rw_aload_n (pc' := 1) (v := .ref r0) rfl rfl rfl ?_)
  refine wp_of e64 c64_1 (rw_iconst (pc' := 2) rfl ?_)
  refine wp_of e64 c64_2 (xp_I (pc' := 5) lf_0_102 hW g0 sh_1 (by decide) (by decide) ty_1_10 rfl rfl (by omega) (by omega) ⟨by omega, by omega⟩ rfl (fun H6 e7 w8 => ?_))
  have f9 := f0.put' e7 g0 rfl
  have k10 : H6 r0 10 = 0 := wq_u_s e7
  refine wp_of e64 c64_5 (rw_iconst (pc' := 6) rfl ?_)
  exact wp_zreturn e64 c64_6 rfl (by omega) ⟨rfl, w8, f9, 1, rfl, ⟨by omega, by omega⟩, ⟨by omega, by omega⟩⟩
/-! StrikeAwake.again()Z  -/
abbrev uq_158 (r0 : Nat) (T : wq_T) (H : wq_H) : Option Value → wq_T → wq_H → Prop := fun r T' H' => T = T' ∧ WT T H' ∧ wfr [(27, 17), (1, 10)] T H H' ∧ ∃ z : Int, some (vI z) = r ∧ (0 ≤ z ∧ z ≤ 1) ∧ (((z = 1) ∧ (H r0 8 = 1)) ∨ ((z = 0) ∧ (H r0 8 = 0)))
set_option maxHeartbeats 4000000 in
theorem u_158 {kt : Nat → Option mc_E} {T : wq_T} {H : wq_H} {r0 : Nat} (hW : WT T H) (g0 : T.2.2.2 r0 = some 1) : wpc kt 2 158 [.ref r0] T H (uq_158 r0 T H) := by
  refine wp_enter e158 (Nat.le_of_ble_eq_true rfl) rfl ?_
  have f0 : wfr [(27, 17), (1, 10)] T H H := wfr.rf
  show wp _ _ 158 0 [(0, .ref r0)] [] _ H _
  have b40 : 0 ≤ H r0 8 ∧ H r0 8 ≤ 1 := hW.box g0 (n := 13) rfl (by decide) rfl
  refine wp_of e158 c158_0 (rw_aload_n (pc' := 1) (v := .ref r0) rfl rfl rfl ?_)
  refine wp_of e158 c158_1 (xg_I (pc' := 4) lf_0_58 hW g0 sh_1 (by decide) (by decide) ty_1_8 rfl rfl (fun b41 b42 => ?_))
  refine wp_of e158 c158_4 (rw_if_ne (p1 := 13) (p2 := 7) (by decide) rfl ⟨by omega, by omega⟩ (fun c43 => ?_) (fun c43 => ?_))
  · refine wp_of e158 c158_13 (rw_aload_n (pc' := 14) (v := .ref r0) rfl rfl rfl ?_)
    refine wp_of e158 c158_14 (xg_R (pc' := 17) lf_0_51 hW g0 sh_1 (by decide) (by decide) ty_1_6 rfl rfl (fun r44 q45 g46 => ?_))
    refine wp_of e158 c158_17 (rw_iconst (pc' := 18) rfl ?_)
    refine wp_of e158 c158_18 (xp_I (pc' := 21) lf_0_298 hW g46 sh_27 (by decide) (by decide) ty_27_17 rfl rfl (by omega) (by omega) ⟨by omega, by omega⟩ rfl (fun H47 e48 w49 => ?_))
    have f50 := f0.put' e48 g46 rfl
    have k51 : H47 r44 17 = 0 := wq_u_s e48
    refine wp_of e158 c158_21 (rw_aload_n (pc' := 22) (v := .ref r0) rfl rfl rfl ?_)
    refine wp_of e158 c158_22 (xc_V (pc' := 25) (r := r0) (as := []) (st := []) (lm_0_151) rfl rfl (Nat.le_of_ble_eq_true rfl) w49 g0 sh_1 (by decide) rfl (by decide) (u_64  w49 g0) (fun R52 T53 H54 p55 => ?_))
    obtain ⟨e56, w58, f59, z60, e57, b61, p62⟩ := p55
    subst e56
    subst e57
    obtain ⟨a63, a64⟩ := p62
    have f65 := f50.tr f59 rfl
    show wp _ _ 158 25 [(0, .ref r0)] [vI z60] _ H54 _
    exact wp_zreturn e158 c158_25 rfl (by omega) ⟨rfl, w58, f65, z60, rfl, ⟨by omega, by omega⟩, (Or.inl ⟨by omega, by omega⟩)⟩
  · refine wp_of e158 c158_7 (rw_aload_n (pc' := 8) (v := .ref r0) rfl rfl rfl ?_)
    refine wp_of e158 c158_8 (rw_iconst (pc' := 9) rfl ?_)
    refine wp_of e158 c158_9 (xc_V (pc' := 12) (r := r0) (as := [vI 1]) (st := []) (lm_0_145) rfl rfl (Nat.le_of_ble_eq_true rfl) hW g0 sh_1 (by decide) rfl (by decide) (u_63  hW g0 ⟨by omega, by omega⟩) (fun R66 T67 H68 p69 => ?_))
    obtain ⟨e70, w72, f73, z74, e71, b75, p76⟩ := p69
    subst e70
    subst e71
    obtain ⟨a77, a78⟩ := p76
    have f79 := f0.tr f73 rfl
    show wp _ _ 158 12 [(0, .ref r0)] [vI z74] _ H68 _
    exact wp_zreturn e158 c158_12 rfl (by omega) ⟨rfl, w72, f79, z74, rfl, ⟨by omega, by omega⟩, (Or.inr ⟨by omega, by omega⟩)⟩
