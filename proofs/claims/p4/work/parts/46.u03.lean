/-! what methods do (own work, written by wip/gen3/sx3.py) -/
/-! StrikeAwakeModel.readStruck()V k -/
abbrev uq_199_k (r0 : Nat) (rp : Nat) (rb : Nat) (B : Nat → Int) (n : Int) (q : Int) (d : xD) (T : wq_T) (H : wq_H) : Option Value → wq_T → wq_H → Prop := fun r T' H' => T = T' ∧ WT T H' ∧ wfr [(42, 8), (42, 9), (42, 10), (42, 11), (42, 12), (42, 13), (42, 14), (42, 15), (42, 16), (67, 999)] T H H' ∧ none = r ∧ ((((xl5 B n q d).1 = 0) ∧ ((xl5 B n q d).2.2 = (xN B n (xN B n (xN B n (xN B n q))))) ∧ (q ≤ (xN B n (xN B n (xN B n (xN B n q))))) ∧ RC T H' r0 B n (xN B n (xN B n (xN B n (xN B n q)))) ∧ DM T H' rp r0 (xdst B n (xN B n q) d)) ∨ (((xl5 B n q d).1 ≠ 0) ∧ RO T H' r0 ((xl5 B n q d).1) ((xl5 B n q d).2.1)))
set_option maxHeartbeats 4000000 in
theorem u_199_k {kt : Nat → Option mc_E} {T : wq_T} {H : wq_H} {r0 : Nat} {rp : Nat} {rb : Nat} {B : Nat → Int} {n : Int} {q : Int} {d : xD} (hW : WT T H) (g0 : T.2.2.2 r0 = some 42) (qrp : H r0 4 = (rp : Int)) (grp : T.2.2.2 rp = some 54) (qrb : H r0 5 = (rb : Int)) (grb : T.2.2.2 rb = some 43) (p0 : xK B n q = 1) (hRC_r0 : RC T H r0 B n q) (hDM_rp : DM T H rp r0 d) : wpc kt 5 199 [.ref r0] T H (uq_199_k r0 rp rb B n q d T H) := by
  refine wp_enter e199 (Nat.le_of_ble_eq_true rfl) rfl ?_
  have f0 : wfr [(42, 8), (42, 9), (42, 10), (42, 11), (42, 12), (42, 13), (42, 14), (42, 15), (42, 16), (67, 999)] T H H := wfr.rf
  show wp _ _ 199 0 [(0, .ref r0)] [] _ H _
  have u241 := RC_k hRC_r0
  have u242 := DM_k hDM_rp
  have h243 : MA9 T H rp (d 1) := hDM_rp.2.2.2.1
  have h244 : MA10 T H rp (d 2) := hDM_rp.2.2.2.2.1
  have h245 : MA11 T H rp (d 3) := hDM_rp.2.2.2.2.2.1
  have h246 : MA12 T H rp (d 4) := hDM_rp.2.2.2.2.2.2.1
  have h247 : MA13 T H rp (d 5) := hDM_rp.2.2.2.2.2.2.2.1
  have h248 : MA14 T H rp (d 6) := hDM_rp.2.2.2.2.2.2.2.2.1
  have h249 : MA15 T H rp (d 7) := hDM_rp.2.2.2.2.2.2.2.2.2.1
  have h250 : MA16 T H rp (d 8) := hDM_rp.2.2.2.2.2.2.2.2.2.2.1
  have h251 : MA17 T H rp (d 9) := hDM_rp.2.2.2.2.2.2.2.2.2.2.2.1
  have h252 : MA18 T H rp (d 10) := hDM_rp.2.2.2.2.2.2.2.2.2.2.2.2.1
  have h253 : MA19 T H rp (d 11) := hDM_rp.2.2.2.2.2.2.2.2.2.2.2.2.2.1
  have h254 : MA20 T H rp (d 12) := hDM_rp.2.2.2.2.2.2.2.2.2.2.2.2.2.2.1
  have h255 : MA21 T H rp (d 13) := hDM_rp.2.2.2.2.2.2.2.2.2.2.2.2.2.2.2.1
  have h256 : MA22 T H rp (d 14) := hDM_rp.2.2.2.2.2.2.2.2.2.2.2.2.2.2.2.2.1
  have h257 : MA23 T H rp (d 15) := hDM_rp.2.2.2.2.2.2.2.2.2.2.2.2.2.2.2.2.2.1
  have h258 : MA25 T H rp (d 17) := hDM_rp.2.2.2.2.2.2.2.2.2.2.2.2.2.2.2.2.2.2.1
  have h259 : MA26 T H rp (d 16) := hDM_rp.2.2.2.2.2.2.2.2.2.2.2.2.2.2.2.2.2.2.2
  refine wp_of e199 c199_0 (rw_aload_n (pc' := 1) (v := .ref r0) rfl rfl rfl ?_)
  refine wp_of e199 c199_1 (rw_aload_n (pc' := 2) (v := .ref r0) rfl rfl rfl ?_)
  refine wp_of e199 c199_2 (xg_I (pc' := 5) lf_9_293 hW g0 sh_42 (by decide) (by decide) ty_42_16 rfl rfl (fun b260 b261 => ?_))
  refine wp_of e199 c199_5 (rw_bipush (pc' := 7) (z := 24) rfl (by decide) ?_)
  refine wp_of e199 c199_7 (xc_V (pc' := 10) (r := r0) (as := [vI (H r0 16), vI 24]) (st := []) (lm_9_228) rfl rfl (Nat.le_of_ble_eq_true rfl) hW g0 sh_42 (by decide) rfl (by decide) (u_188_k (B := B) (n := n) (q := q) hW g0 ⟨by omega, by omega⟩ ⟨by omega, by omega⟩ qrb grb (by omega) hRC_r0) (fun R262 T263 H264 p265 => ?_))
  obtain ⟨e266, w268, f269, e267, p270⟩ := p265
  subst e266
  subst e267
  rcases p270 with ⟨a271, a272⟩ | ⟨a273, a274⟩
  · have f275 := f0.tr f269 rfl
    show wp _ _ 199 10 [(0, .ref r0)] [] _ H264 _
    have u276 := RC_k a272
    have _h := @xsh_b B n (xN B n q) d
    have _hb := @xh_b B n (xN B n q) 0 23
    have _vb := @xV_b2 B n (xN B n q)
    refine wp_of e199 c199_10 (rw_aload_n (pc' := 11) (v := .ref r0) rfl rfl rfl ?_)
    refine wp_of e199 c199_11 (rw_iconst (pc' := 12) rfl ?_)
    refine wp_of e199 c199_12 (rw_bipush (pc' := 14) (z := 23) rfl (by decide) ?_)
    refine wp_of e199 c199_14 (xc_V (pc' := 17) (r := r0) (as := [vI 0, vI 23]) (st := []) (lm_9_129) rfl rfl (Nat.le_of_ble_eq_true rfl) w268 g0 sh_42 (by decide) rfl (by decide) (u_185_k (B := B) (n := n) (q := ((xN B n q))) (lo := 0) (hi := 23) w268 g0 ⟨by omega, by omega⟩ ⟨by omega, by omega⟩ (by omega) (by omega) a272) (fun R277 T278 H279 p280 => ?_))
    obtain ⟨e281, w283, f284, z285, e282, b286, p287⟩ := p280
    subst e281
    subst e282
    rcases p287 with ⟨a288, a289, a290, a291, a292⟩ | ⟨a293, a294, a295⟩
    · have f296 := f275.tr f284 rfl
      show wp _ _ 199 17 [(0, .ref r0)] [vI z285] _ H279 _
      have u297 := RC_k a292
      refine wp_of e199 c199_17 (rw_istore_n (pc' := 18) (z := z285) (L' := [(1, vI z285), (0, .ref r0)]) rfl rfl rfl ?_)
      refine wp_of e199 c199_18 (rw_aload_n (pc' := 19) (v := .ref r0) rfl rfl rfl ?_)
      refine wp_of e199 c199_19 (xg_I (pc' := 22) lf_9_75 w283 g0 sh_42 (by decide) (by decide) ty_42_9 rfl rfl (fun b298 b299 => ?_))
      refine wp_of e199 c199_22 (rw_iconst (pc' := 23) rfl ?_)
      refine wp_of e199 c199_23 (rw_icmp_eq (p1 := 43) (p2 := 26) (by decide) rfl ⟨by omega, by omega⟩ ⟨by omega, by omega⟩ (fun c300 => ?_) (fun c300 => ?_))
      · exfalso
        omega
      · refine wp_of e199 c199_26 (rw_aload_n (pc' := 27) (v := .ref r0) rfl rfl rfl ?_)
        have k301 : H279 r0 4 = H r0 4 := ((f284 r0 4 _ g0 rfl).trans (f269 r0 4 _ g0 rfl))
        have q302 : H279 r0 4 = (rp : Int) := k301.trans qrp
        refine wp_of e199 c199_27 (xg_K (pc' := 30) lf_9_166 w283 g0 sh_42 (by decide) (by decide) rfl q302 rfl ?_)
        refine wp_of e199 c199_30 (xg_R (pc' := 33) lf_9_296 w283 grp sh_54 (by decide) (by decide) ty_54_21 rfl rfl (fun r303 q304 g305 => ?_))
        refine wp_of e199 c199_33 (rw_iload_n (pc' := 34) (z := z285) rfl rfl ?_)
        refine wp_of e199 c199_34 (xa_I (so := 0) (pc' := 35) w283 g305 sh_67 (by decide) (ty_67 _) (by omega) (by omega) rfl (fun b306 b307 => ?_))
        have h308 : MA21 T H279 rp (d 13) := (MA21_fr w268 grp f284 rfl (MA21_fr hW grp f269 rfl h255))
        have := MA_at h308 q304 (k := (z285.toNat)) (by omega)
        have _c : d 13 (z285.toNat) = d 13 (xV B n (xN B n q)).toNat := by rw [show z285 = xV B n (xN B n q) by omega]
        refine wp_of e199 c199_35 (rw_if_le (p1 := 43) (p2 := 38) (by decide) rfl ⟨by omega, by omega⟩ (fun c309 => ?_) (fun c309 => ?_))
        · refine wp_of e199 c199_43 (rw_aload_n (pc' := 44) (v := .ref r0) rfl rfl rfl ?_)
          have k310 : H279 r0 5 = H r0 5 := ((f284 r0 5 _ g0 rfl).trans (f269 r0 5 _ g0 rfl))
          have q311 : H279 r0 5 = (rb : Int) := k310.trans qrb
          have u312 := RC_a a292
          have h313 : TM T H279 rb B := RC_tm a292 q311
          refine wp_of e199 c199_44 (xc_V (pc' := 47) (r := r0) (as := []) (st := []) (lm_9_118) rfl rfl (Nat.le_of_ble_eq_true rfl) w283 g0 sh_42 (by decide) rfl (by decide) (u_172_k (B := B) (n := n) (a := (xE B n ((xN B n q)))) (q := (xN B n ((xN B n q)))) w283 g0 q311 grb (by omega) (by omega) (by omega) (by omega) (by omega) (rfl) h313) (fun R314 T315 H316 p317 => ?_))
          obtain ⟨e318, w320, f321, e319, p322⟩ := p317
          subst e318
          subst e319
          have f324 := f296.tr f321 rfl
          show wp _ _ 199 47 [(1, vI z285), (0, .ref r0)] [] _ H316 _
          have u325 := RC_k p322
          refine wp_of e199 c199_47 (rw_aload_n (pc' := 48) (v := .ref r0) rfl rfl rfl ?_)
          refine wp_of e199 c199_48 (rw_ldc_wS (pc' := 51) (k := 89) rfl rfl rfl rfl ?_)
          refine wp_of e199 c199_51 (rw_iconst (pc' := 52) rfl ?_)
          refine wp_of e199 c199_52 (rw_bipush (pc' := 54) (z := 99) rfl (by decide) ?_)
          have k326 : H316 r0 5 = H279 r0 5 := (f321 r0 5 _ g0 rfl)
          have q327 : H316 r0 5 = (rb : Int) := k326.trans q311
          refine wp_of e199 c199_54 (xc_V (pc' := 57) (r := r0) (as := [.ref 89, vI 0, vI 99]) (st := []) (lm_9_216) rfl rfl (Nat.le_of_ble_eq_true rfl) w320 g0 sh_42 (by decide) rfl (by decide) (u_182_k (B := B) (n := n) (q := ((xN B n ((xN B n q))))) (kk := 307) (lo := 0) (hi := 99) w320 g0 rfl ⟨by omega, by omega⟩ ⟨by omega, by omega⟩ q327 grb (by decide +kernel) (by omega) (by omega) p322) (fun R328 T329 H330 p331 => ?_))
          obtain ⟨e332, w334, f335, z336, e333, b337, p338⟩ := p331
          subst e332
          subst e333
          rcases p338 with ⟨a339, a340, a341, a342, a343, a344⟩ | ⟨a345, a346, a347⟩ | ⟨a348, a349, a350, a351⟩
          · have f352 := f324.tr f335 rfl
            show wp _ _ 199 57 [(1, vI z285), (0, .ref r0)] [vI z336] _ H330 _
            have u353 := RC_k a344
            refine wp_of e199 c199_57 (rw_istore_n (pc' := 58) (z := z336) (L' := [(2, vI z336), (1, vI z285), (0, .ref r0)]) rfl rfl rfl ?_)
            refine wp_of e199 c199_58 (rw_aload_n (pc' := 59) (v := .ref r0) rfl rfl rfl ?_)
            refine wp_of e199 c199_59 (xg_I (pc' := 62) lf_9_75 w334 g0 sh_42 (by decide) (by decide) ty_42_9 rfl rfl (fun b354 b355 => ?_))
            refine wp_of e199 c199_62 (rw_iconst (pc' := 63) rfl ?_)
            refine wp_of e199 c199_63 (rw_icmp_ne (p1 := 67) (p2 := 66) (by decide) rfl ⟨by omega, by omega⟩ ⟨by omega, by omega⟩ (fun c356 => ?_) (fun c356 => ?_))
            · refine wp_of e199 c199_67 (rw_aload_n (pc' := 68) (v := .ref r0) rfl rfl rfl ?_)
              have k357 : H330 r0 4 = H279 r0 4 := ((f335 r0 4 _ g0 rfl).trans (f321 r0 4 _ g0 rfl))
              have q358 : H330 r0 4 = (rp : Int) := k357.trans q302
              refine wp_of e199 c199_68 (xg_K (pc' := 71) lf_9_166 w334 g0 sh_42 (by decide) (by decide) rfl q358 rfl ?_)
              have k359 : H330 rp 21 = H279 rp 21 := ((f335 rp 21 _ grp rfl).trans (f321 rp 21 _ grp rfl))
              have q360 : H330 rp 21 = (r303 : Int) := k359.trans q304
              refine wp_of e199 c199_71 (xg_K (pc' := 74) lf_9_296 w334 grp sh_54 (by decide) (by decide) rfl q360 rfl ?_)
              refine wp_of e199 c199_74 (rw_iload_n (pc' := 75) (z := z285) rfl rfl ?_)
              refine wp_of e199 c199_75 (rw_iload_n (pc' := 76) (z := z336) rfl rfl ?_)
              refine wp_of e199 c199_76 (rw_iconst (pc' := 77) rfl ?_)
              refine wp_of e199 c199_77 (rw_iadd (pc' := 78) rfl ?_)
              have h361 : MA21 T H330 rp (d 13) := (MA21_fr w320 grp f335 rfl (MA21_fr w283 grp f321 rfl h308))
              refine wp_of e199 c199_78 (xs_I (pc' := 79) w334 g305 (by decide) sh_67 (by decide) (ty_67 _) (by omega) (by omega) ⟨by omega, by omega⟩ (by omega) (by omega) rfl (fun H362 e363 w364 => ?_))
              have f365 := f352.put' e363 g305 rfl
              have h366 : MA21 T H362 rp (xdst B n (xN B n q) d 13) := MA_put h361 q360 grp g305 (by decide) e363 ((xdst_c (k := (z285.toNat)) (by omega)).1.trans (by omega)) (xdst_c (k := (z285.toNat)) (by omega)).2
              refine wp_of e199 c199_79 (rw_aload_n (pc' := 80) (v := .ref r0) rfl rfl rfl ?_)
              refine wp_of e199 c199_80 (rw_dup (pc' := 81) rfl rfl ?_)
              have k367 : H362 r0 16 = H r0 16 := ((wq_u_t e363 g305 g0 rfl 16).trans ((f335 r0 16 _ g0 rfl).trans ((f321 r0 16 _ g0 rfl).trans ((f284 r0 16 _ g0 rfl).trans (f269 r0 16 _ g0 rfl)))))
              refine wp_of e199 c199_81 (xg_I (pc' := 84) lf_9_293 w364 g0 sh_42 (by decide) (by decide) ty_42_16 rfl rfl (fun b368 b369 => ?_))
              refine wp_of e199 c199_84 (rw_iconst (pc' := 85) rfl ?_)
              refine wp_of e199 c199_85 (rw_iadd (pc' := 86) rfl ?_)
              refine wp_of e199 c199_86 (xp_I (pc' := 89) lf_9_293 w364 g0 sh_42 (by decide) (by decide) ty_42_16 rfl rfl (by omega) (by omega) ⟨by omega, by omega⟩ rfl (fun H370 e371 w372 => ?_))
              have f373 := f365.put' e371 g0 rfl
              have k374 : H370 r0 16 = (H362 r0 16) + 1 := wq_u_s e371
              have k375 : H370 rp 0 = H rp 0 := ((wq_u_t e371 g0 grp rfl 0).trans ((wq_u_t e363 g305 grp rfl 0).trans ((f335 rp 0 _ grp rfl).trans ((f321 rp 0 _ grp rfl).trans ((f284 rp 0 _ grp rfl).trans (f269 rp 0 _ grp rfl))))))
              have k376 : H370 rp 1 = H rp 1 := ((wq_u_t e371 g0 grp rfl 1).trans ((wq_u_t e363 g305 grp rfl 1).trans ((f335 rp 1 _ grp rfl).trans ((f321 rp 1 _ grp rfl).trans ((f284 rp 1 _ grp rfl).trans (f269 rp 1 _ grp rfl))))))
              have k377 : H370 rp 2 = H rp 2 := ((wq_u_t e371 g0 grp rfl 2).trans ((wq_u_t e363 g305 grp rfl 2).trans ((f335 rp 2 _ grp rfl).trans ((f321 rp 2 _ grp rfl).trans ((f284 rp 2 _ grp rfl).trans (f269 rp 2 _ grp rfl))))))
              have k378 : H370 rp 3 = H rp 3 := ((wq_u_t e371 g0 grp rfl 3).trans ((wq_u_t e363 g305 grp rfl 3).trans ((f335 rp 3 _ grp rfl).trans ((f321 rp 3 _ grp rfl).trans ((f284 rp 3 _ grp rfl).trans (f269 rp 3 _ grp rfl))))))
              have k379 : H370 rp 4 = H rp 4 := ((wq_u_t e371 g0 grp rfl 4).trans ((wq_u_t e363 g305 grp rfl 4).trans ((f335 rp 4 _ grp rfl).trans ((f321 rp 4 _ grp rfl).trans ((f284 rp 4 _ grp rfl).trans (f269 rp 4 _ grp rfl))))))
              have k380 : H370 rp 5 = H rp 5 := ((wq_u_t e371 g0 grp rfl 5).trans ((wq_u_t e363 g305 grp rfl 5).trans ((f335 rp 5 _ grp rfl).trans ((f321 rp 5 _ grp rfl).trans ((f284 rp 5 _ grp rfl).trans (f269 rp 5 _ grp rfl))))))
              have k381 : H370 rp 6 = H rp 6 := ((wq_u_t e371 g0 grp rfl 6).trans ((wq_u_t e363 g305 grp rfl 6).trans ((f335 rp 6 _ grp rfl).trans ((f321 rp 6 _ grp rfl).trans ((f284 rp 6 _ grp rfl).trans (f269 rp 6 _ grp rfl))))))
              have k382 : H370 rp 7 = H rp 7 := ((wq_u_t e371 g0 grp rfl 7).trans ((wq_u_t e363 g305 grp rfl 7).trans ((f335 rp 7 _ grp rfl).trans ((f321 rp 7 _ grp rfl).trans ((f284 rp 7 _ grp rfl).trans (f269 rp 7 _ grp rfl))))))
              have k383 : H370 rp 8 = H rp 8 := ((wq_u_t e371 g0 grp rfl 8).trans ((wq_u_t e363 g305 grp rfl 8).trans ((f335 rp 8 _ grp rfl).trans ((f321 rp 8 _ grp rfl).trans ((f284 rp 8 _ grp rfl).trans (f269 rp 8 _ grp rfl))))))
              have o384 : (xl5 B n q d) = (0, (xN B n q), (xN B n (xN B n ((xN B n ((xN B n q))))))) := by
                unfold xl5 xst
                repeat first | rw [xs_0 (by omega)] | rw [xs_1 (by omega)] | rw [if_pos (by omega)] | rw [if_neg (by omega)]
                first | done | rfl | assumption | (exfalso; omega) | (refine Prod.ext ?_ (Prod.ext ?_ ?_) <;> (try dsimp only) <;> omega)
              have o384a : ((xl5 B n q d)).1 = 0 := by rw [o384]
              have o384b : ((xl5 B n q d)).2.1 = (xN B n q) := by rw [o384]
              have o384c : ((xl5 B n q d)).2.2 = (xN B n (xN B n ((xN B n ((xN B n q)))))) := by rw [o384]
              have _l := @xdst_v B n (xN B n q) d (by omega) (by omega) (by omega)
              have h385 : RC T H370 r0 B n (xN B n (xN B n ((xN B n ((xN B n q)))))) := (RC_fr w364 g0 ((wfr.rf (l := [(42, 16)])).put' e371 g0 rfl) rfl (RC_fr w334 g0 ((wfr.rf (l := [(67, 999)])).put' e363 g305 rfl) rfl a344))
              have h386 : MA9 T H370 rp (d 1) := (MA9_fr w364 grp ((wfr.rf (l := [(42, 16)])).put' e371 g0 rfl) rfl (MA9_fr w334 grp ((wfr.rf (l := [(67, 999)])).put' e363 g305 rfl) rfl (MA9_fr w320 grp f335 rfl (MA9_fr w283 grp f321 rfl (MA9_fr w268 grp f284 rfl (MA9_fr hW grp f269 rfl h243))))))
              have h387 : MA10 T H370 rp (d 2) := (MA10_fr w364 grp ((wfr.rf (l := [(42, 16)])).put' e371 g0 rfl) rfl (MA10_fr w334 grp ((wfr.rf (l := [(67, 999)])).put' e363 g305 rfl) rfl (MA10_fr w320 grp f335 rfl (MA10_fr w283 grp f321 rfl (MA10_fr w268 grp f284 rfl (MA10_fr hW grp f269 rfl h244))))))
              have h388 : MA11 T H370 rp (d 3) := (MA11_fr w364 grp ((wfr.rf (l := [(42, 16)])).put' e371 g0 rfl) rfl (MA11_fr w334 grp ((wfr.rf (l := [(67, 999)])).put' e363 g305 rfl) rfl (MA11_fr w320 grp f335 rfl (MA11_fr w283 grp f321 rfl (MA11_fr w268 grp f284 rfl (MA11_fr hW grp f269 rfl h245))))))
              have h389 : MA12 T H370 rp (d 4) := (MA12_fr w364 grp ((wfr.rf (l := [(42, 16)])).put' e371 g0 rfl) rfl (MA12_fr w334 grp ((wfr.rf (l := [(67, 999)])).put' e363 g305 rfl) rfl (MA12_fr w320 grp f335 rfl (MA12_fr w283 grp f321 rfl (MA12_fr w268 grp f284 rfl (MA12_fr hW grp f269 rfl h246))))))
              have h390 : MA13 T H370 rp (d 5) := (MA13_fr w364 grp ((wfr.rf (l := [(42, 16)])).put' e371 g0 rfl) rfl (MA13_fr w334 grp ((wfr.rf (l := [(67, 999)])).put' e363 g305 rfl) rfl (MA13_fr w320 grp f335 rfl (MA13_fr w283 grp f321 rfl (MA13_fr w268 grp f284 rfl (MA13_fr hW grp f269 rfl h247))))))
              have h391 : MA14 T H370 rp (d 6) := (MA14_fr w364 grp ((wfr.rf (l := [(42, 16)])).put' e371 g0 rfl) rfl (MA14_fr w334 grp ((wfr.rf (l := [(67, 999)])).put' e363 g305 rfl) rfl (MA14_fr w320 grp f335 rfl (MA14_fr w283 grp f321 rfl (MA14_fr w268 grp f284 rfl (MA14_fr hW grp f269 rfl h248))))))
              have h392 : MA15 T H370 rp (d 7) := (MA15_fr w364 grp ((wfr.rf (l := [(42, 16)])).put' e371 g0 rfl) rfl (MA15_fr w334 grp ((wfr.rf (l := [(67, 999)])).put' e363 g305 rfl) rfl (MA15_fr w320 grp f335 rfl (MA15_fr w283 grp f321 rfl (MA15_fr w268 grp f284 rfl (MA15_fr hW grp f269 rfl h249))))))
              have h393 : MA16 T H370 rp (d 8) := (MA16_fr w364 grp ((wfr.rf (l := [(42, 16)])).put' e371 g0 rfl) rfl (MA16_fr w334 grp ((wfr.rf (l := [(67, 999)])).put' e363 g305 rfl) rfl (MA16_fr w320 grp f335 rfl (MA16_fr w283 grp f321 rfl (MA16_fr w268 grp f284 rfl (MA16_fr hW grp f269 rfl h250))))))
              have h394 : MA17 T H370 rp (d 9) := (MA17_fr w364 grp ((wfr.rf (l := [(42, 16)])).put' e371 g0 rfl) rfl (MA17_fr w334 grp ((wfr.rf (l := [(67, 999)])).put' e363 g305 rfl) rfl (MA17_fr w320 grp f335 rfl (MA17_fr w283 grp f321 rfl (MA17_fr w268 grp f284 rfl (MA17_fr hW grp f269 rfl h251))))))
              have h395 : MA18 T H370 rp (d 10) := (MA18_fr w364 grp ((wfr.rf (l := [(42, 16)])).put' e371 g0 rfl) rfl (MA18_fr w334 grp ((wfr.rf (l := [(67, 999)])).put' e363 g305 rfl) rfl (MA18_fr w320 grp f335 rfl (MA18_fr w283 grp f321 rfl (MA18_fr w268 grp f284 rfl (MA18_fr hW grp f269 rfl h252))))))
              have h396 : MA19 T H370 rp (d 11) := (MA19_fr w364 grp ((wfr.rf (l := [(42, 16)])).put' e371 g0 rfl) rfl (MA19_fr w334 grp ((wfr.rf (l := [(67, 999)])).put' e363 g305 rfl) rfl (MA19_fr w320 grp f335 rfl (MA19_fr w283 grp f321 rfl (MA19_fr w268 grp f284 rfl (MA19_fr hW grp f269 rfl h253))))))
              have h397 : MA20 T H370 rp (d 12) := (MA20_fr w364 grp ((wfr.rf (l := [(42, 16)])).put' e371 g0 rfl) rfl (MA20_fr w334 grp ((wfr.rf (l := [(67, 999)])).put' e363 g305 rfl) rfl (MA20_fr w320 grp f335 rfl (MA20_fr w283 grp f321 rfl (MA20_fr w268 grp f284 rfl (MA20_fr hW grp f269 rfl h254))))))
              have h398 : MA21 T H370 rp (xdst B n (xN B n q) d 13) := (MA21_fr w364 grp ((wfr.rf (l := [(42, 16)])).put' e371 g0 rfl) rfl h366)
              have h399 : MA22 T H370 rp (d 14) := (MA22_fr w364 grp ((wfr.rf (l := [(42, 16)])).put' e371 g0 rfl) rfl (MA22_fr w334 grp ((wfr.rf (l := [(67, 999)])).put' e363 g305 rfl) rfl (MA22_fr w320 grp f335 rfl (MA22_fr w283 grp f321 rfl (MA22_fr w268 grp f284 rfl (MA22_fr hW grp f269 rfl h256))))))
              have h400 : MA23 T H370 rp (d 15) := (MA23_fr w364 grp ((wfr.rf (l := [(42, 16)])).put' e371 g0 rfl) rfl (MA23_fr w334 grp ((wfr.rf (l := [(67, 999)])).put' e363 g305 rfl) rfl (MA23_fr w320 grp f335 rfl (MA23_fr w283 grp f321 rfl (MA23_fr w268 grp f284 rfl (MA23_fr hW grp f269 rfl h257))))))
              have h401 : MA25 T H370 rp (d 17) := (MA25_fr w364 grp ((wfr.rf (l := [(42, 16)])).put' e371 g0 rfl) rfl (MA25_fr w334 grp ((wfr.rf (l := [(67, 999)])).put' e363 g305 rfl) rfl (MA25_fr w320 grp f335 rfl (MA25_fr w283 grp f321 rfl (MA25_fr w268 grp f284 rfl (MA25_fr hW grp f269 rfl h258))))))
              have h402 : MA26 T H370 rp (d 16) := (MA26_fr w364 grp ((wfr.rf (l := [(42, 16)])).put' e371 g0 rfl) rfl (MA26_fr w334 grp ((wfr.rf (l := [(67, 999)])).put' e363 g305 rfl) rfl (MA26_fr w320 grp f335 rfl (MA26_fr w283 grp f321 rfl (MA26_fr w268 grp f284 rfl (MA26_fr hW grp f269 rfl h259))))))
              exact wp_return e199 c199_89 rfl ⟨rfl, w372, f373, rfl, (Or.inl ⟨by omega, by omega, by omega, h385, DM_mk hDM_rp.1 ⟨by omega, by omega, by omega, by omega, by omega, by omega, by omega, by omega, by omega, by omega, by omega, by omega⟩ (xdP_cg hDM_rp.2.2.1 (fun i h1 h2 => by unfold xdst; rw [wq_u_row (by omega)])) h386 h387 h388 h389 h390 h391 h392 h393 h394 h395 h396 h397 h398 h399 h400 h401 h402 ⟨(by unfold xdst; rw [wq_u_row (by decide)]), (by unfold xdst; rw [wq_u_row (by decide)]), (by unfold xdst; rw [wq_u_row (by decide)]), (by unfold xdst; rw [wq_u_row (by decide)]), (by unfold xdst; rw [wq_u_row (by decide)]), (by unfold xdst; rw [wq_u_row (by decide)]), (by unfold xdst; rw [wq_u_row (by decide)]), (by unfold xdst; rw [wq_u_row (by decide)]), (by unfold xdst; rw [wq_u_row (by decide)]), (by unfold xdst; rw [wq_u_row (by decide)]), (by unfold xdst; rw [wq_u_row (by decide)]), (by unfold xdst; rw [wq_u_row (by decide)]), rfl, (by unfold xdst; rw [wq_u_row (by decide)]), (by unfold xdst; rw [wq_u_row (by decide)]), (by unfold xdst; rw [wq_u_row (by decide)]), (by unfold xdst; rw [wq_u_row (by decide)])⟩⟩)⟩
            · exfalso
              omega
          · have f403 := f324.tr f335 rfl
            show wp _ _ 199 57 [(1, vI z285), (0, .ref r0)] [vI z336] _ H330 _
            have u404 := RO_k a347
            refine wp_of e199 c199_57 (rw_istore_n (pc' := 58) (z := z336) (L' := [(2, vI z336), (1, vI z285), (0, .ref r0)]) rfl rfl rfl ?_)
            refine wp_of e199 c199_58 (rw_aload_n (pc' := 59) (v := .ref r0) rfl rfl rfl ?_)
            refine wp_of e199 c199_59 (xg_I (pc' := 62) lf_9_75 w334 g0 sh_42 (by decide) (by decide) ty_42_9 rfl rfl (fun b405 b406 => ?_))
            refine wp_of e199 c199_62 (rw_iconst (pc' := 63) rfl ?_)
            refine wp_of e199 c199_63 (rw_icmp_ne (p1 := 67) (p2 := 66) (by decide) rfl ⟨by omega, by omega⟩ ⟨by omega, by omega⟩ (fun c407 => ?_) (fun c407 => ?_))
            · exfalso
              omega
            · have o408 : (xl5 B n q d) = (xw B n ((xN B n ((xN B n q)))) 307, ((xN B n ((xN B n q)))), ((xN B n ((xN B n q))))) := by
                unfold xl5 xst
                repeat first | rw [xs_0 (by omega)] | rw [xs_1 (by omega)] | rw [if_pos (by omega)] | rw [if_neg (by omega)]
                first | done | rfl | assumption | (exfalso; omega) | (refine Prod.ext ?_ (Prod.ext ?_ ?_) <;> (try dsimp only) <;> omega)
              have o408a : ((xl5 B n q d)).1 = xw B n ((xN B n ((xN B n q)))) 307 := by rw [o408]
              have o408b : ((xl5 B n q d)).2.1 = ((xN B n ((xN B n q)))) := by rw [o408]
              have o408c : ((xl5 B n q d)).2.2 = ((xN B n ((xN B n q)))) := by rw [o408]
              exact wp_return e199 c199_66 rfl ⟨rfl, w334, f403, rfl, (Or.inr ⟨by omega, RO_eq a347 (by omega) (by omega)⟩)⟩
          · have f409 := f324.tr f335 rfl
            show wp _ _ 199 57 [(1, vI z285), (0, .ref r0)] [vI z336] _ H330 _
            have u410 := RO_k a351
            refine wp_of e199 c199_57 (rw_istore_n (pc' := 58) (z := z336) (L' := [(2, vI z336), (1, vI z285), (0, .ref r0)]) rfl rfl rfl ?_)
            refine wp_of e199 c199_58 (rw_aload_n (pc' := 59) (v := .ref r0) rfl rfl rfl ?_)
            refine wp_of e199 c199_59 (xg_I (pc' := 62) lf_9_75 w334 g0 sh_42 (by decide) (by decide) ty_42_9 rfl rfl (fun b411 b412 => ?_))
            refine wp_of e199 c199_62 (rw_iconst (pc' := 63) rfl ?_)
            refine wp_of e199 c199_63 (rw_icmp_ne (p1 := 67) (p2 := 66) (by decide) rfl ⟨by omega, by omega⟩ ⟨by omega, by omega⟩ (fun c413 => ?_) (fun c413 => ?_))
            · exfalso
              omega
            · have o414 : (xl5 B n q d) = (xh B n (xN B n ((xN B n ((xN B n q))))) 0 99, (xN B n ((xN B n ((xN B n q))))), (xN B n ((xN B n ((xN B n q)))))) := by
                unfold xl5 xst
                repeat first | rw [xs_0 (by omega)] | rw [xs_1 (by omega)] | rw [if_pos (by omega)] | rw [if_neg (by omega)]
                first | done | rfl | assumption | (exfalso; omega) | (refine Prod.ext ?_ (Prod.ext ?_ ?_) <;> (try dsimp only) <;> omega)
              have o414a : ((xl5 B n q d)).1 = xh B n (xN B n ((xN B n ((xN B n q))))) 0 99 := by rw [o414]
              have o414b : ((xl5 B n q d)).2.1 = (xN B n ((xN B n ((xN B n q))))) := by rw [o414]
              have o414c : ((xl5 B n q d)).2.2 = (xN B n ((xN B n ((xN B n q))))) := by rw [o414]
              exact wp_return e199 c199_66 rfl ⟨rfl, w334, f409, rfl, (Or.inr ⟨by omega, RO_eq a351 (by omega) (by omega)⟩)⟩
        · refine wp_of e199 c199_38 (rw_aload_n (pc' := 39) (v := .ref r0) rfl rfl rfl ?_)
          refine wp_of e199 c199_39 (rw_iconst (pc' := 40) rfl ?_)
          refine wp_of e199 c199_40 (xc_V (pc' := 43) (r := r0) (as := [vI 3]) (st := []) (lm_9_121) rfl rfl (Nat.le_of_ble_eq_true rfl) w283 g0 sh_42 (by decide) rfl (by decide) (u_181_k (B := B) (n := n) (q := ((xN B n q))) w283 g0 ⟨by omega, by omega⟩ (by omega) a292) (fun R415 T416 H417 p418 => ?_))
          obtain ⟨e419, w421, f422, e420, p423⟩ := p418
          subst e419
          subst e420
          have f425 := f296.tr f422 rfl
          show wp _ _ 199 43 [(1, vI z285), (0, .ref r0)] [] _ H417 _
          have u426 := RO_k p423
          refine wp_of e199 c199_43 (rw_aload_n (pc' := 44) (v := .ref r0) rfl rfl rfl ?_)
          refine wp_of e199 c199_44 (xc_V (pc' := 47) (r := r0) (as := []) (st := []) (lm_9_118) rfl rfl (Nat.le_of_ble_eq_true rfl) w421 g0 sh_42 (by decide) rfl (by decide) (u_172_o (fo := 3) (po := (((xN B n q)))) w421 g0 p423) (fun R427 T428 H429 p430 => ?_))
          obtain ⟨e431, e433, e432, p434⟩ := p430
          subst e431
          subst e432
          subst e433
          show wp _ _ 199 47 [(1, vI z285), (0, .ref r0)] [] _ H417 _
          have u436 := RO_k p434
          refine wp_of e199 c199_47 (rw_aload_n (pc' := 48) (v := .ref r0) rfl rfl rfl ?_)
          refine wp_of e199 c199_48 (rw_ldc_wS (pc' := 51) (k := 89) rfl rfl rfl rfl ?_)
          refine wp_of e199 c199_51 (rw_iconst (pc' := 52) rfl ?_)
          refine wp_of e199 c199_52 (rw_bipush (pc' := 54) (z := 99) rfl (by decide) ?_)
          have k437 : H417 r0 5 = H r0 5 := ((f422 r0 5 _ g0 rfl).trans ((f284 r0 5 _ g0 rfl).trans (f269 r0 5 _ g0 rfl)))
          have q438 : H417 r0 5 = (rb : Int) := k437.trans qrb
          refine wp_of e199 c199_54 (xc_V (pc' := 57) (r := r0) (as := [.ref 89, vI 0, vI 99]) (st := []) (lm_9_216) rfl rfl (Nat.le_of_ble_eq_true rfl) w421 g0 sh_42 (by decide) rfl (by decide) (u_182_o (fo := 3) (po := (((xN B n q)))) (kk := 307) w421 g0 rfl ⟨by omega, by omega⟩ ⟨by omega, by omega⟩ q438 grb (by decide +kernel) p434) (fun R439 T440 H441 p442 => ?_))
          obtain ⟨e443, e445, z446, e444, b447, p448⟩ := p442
          subst e443
          subst e444
          subst e445
          obtain ⟨a449, a450⟩ := p448
          show wp _ _ 199 57 [(1, vI z285), (0, .ref r0)] [vI z446] _ H417 _
          have u451 := RO_k a450
          refine wp_of e199 c199_57 (rw_istore_n (pc' := 58) (z := z446) (L' := [(2, vI z446), (1, vI z285), (0, .ref r0)]) rfl rfl rfl ?_)
          refine wp_of e199 c199_58 (rw_aload_n (pc' := 59) (v := .ref r0) rfl rfl rfl ?_)
          refine wp_of e199 c199_59 (xg_I (pc' := 62) lf_9_75 w421 g0 sh_42 (by decide) (by decide) ty_42_9 rfl rfl (fun b452 b453 => ?_))
          refine wp_of e199 c199_62 (rw_iconst (pc' := 63) rfl ?_)
          refine wp_of e199 c199_63 (rw_icmp_ne (p1 := 67) (p2 := 66) (by decide) rfl ⟨by omega, by omega⟩ ⟨by omega, by omega⟩ (fun c454 => ?_) (fun c454 => ?_))
          · exfalso
            omega
          · have o455 : (xl5 B n q d) = (xsh B n (xN B n q) d, (xN B n q), (xN B n q)) := by
              unfold xl5 xst
              repeat first | rw [xs_0 (by omega)] | rw [xs_1 (by omega)] | rw [if_pos (by omega)] | rw [if_neg (by omega)]
              first | done | rfl | assumption | (exfalso; omega) | (refine Prod.ext ?_ (Prod.ext ?_ ?_) <;> (try dsimp only) <;> omega)
            have o455a : ((xl5 B n q d)).1 = xsh B n (xN B n q) d := by rw [o455]
            have o455b : ((xl5 B n q d)).2.1 = (xN B n q) := by rw [o455]
            have o455c : ((xl5 B n q d)).2.2 = (xN B n q) := by rw [o455]
            exact wp_return e199 c199_66 rfl ⟨rfl, w421, f425, rfl, (Or.inr ⟨by omega, RO_eq a450 (by omega) (by omega)⟩)⟩
    · have f456 := f275.tr f284 rfl
      show wp _ _ 199 17 [(0, .ref r0)] [vI z285] _ H279 _
      have u457 := RO_k a295
      refine wp_of e199 c199_17 (rw_istore_n (pc' := 18) (z := z285) (L' := [(1, vI z285), (0, .ref r0)]) rfl rfl rfl ?_)
      refine wp_of e199 c199_18 (rw_aload_n (pc' := 19) (v := .ref r0) rfl rfl rfl ?_)
      refine wp_of e199 c199_19 (xg_I (pc' := 22) lf_9_75 w283 g0 sh_42 (by decide) (by decide) ty_42_9 rfl rfl (fun b458 b459 => ?_))
      refine wp_of e199 c199_22 (rw_iconst (pc' := 23) rfl ?_)
      refine wp_of e199 c199_23 (rw_icmp_eq (p1 := 43) (p2 := 26) (by decide) rfl ⟨by omega, by omega⟩ ⟨by omega, by omega⟩ (fun c460 => ?_) (fun c460 => ?_))
      · refine wp_of e199 c199_43 (rw_aload_n (pc' := 44) (v := .ref r0) rfl rfl rfl ?_)
        refine wp_of e199 c199_44 (xc_V (pc' := 47) (r := r0) (as := []) (st := []) (lm_9_118) rfl rfl (Nat.le_of_ble_eq_true rfl) w283 g0 sh_42 (by decide) rfl (by decide) (u_172_o (fo := (xh B n ((xN B n q)) 0 23)) (po := (((xN B n q)))) w283 g0 a295) (fun R461 T462 H463 p464 => ?_))
        obtain ⟨e465, e467, e466, p468⟩ := p464
        subst e465
        subst e466
        subst e467
        show wp _ _ 199 47 [(1, vI z285), (0, .ref r0)] [] _ H279 _
        have u470 := RO_k p468
        refine wp_of e199 c199_47 (rw_aload_n (pc' := 48) (v := .ref r0) rfl rfl rfl ?_)
        refine wp_of e199 c199_48 (rw_ldc_wS (pc' := 51) (k := 89) rfl rfl rfl rfl ?_)
        refine wp_of e199 c199_51 (rw_iconst (pc' := 52) rfl ?_)
        refine wp_of e199 c199_52 (rw_bipush (pc' := 54) (z := 99) rfl (by decide) ?_)
        have k471 : H279 r0 5 = H r0 5 := ((f284 r0 5 _ g0 rfl).trans (f269 r0 5 _ g0 rfl))
        have q472 : H279 r0 5 = (rb : Int) := k471.trans qrb
        refine wp_of e199 c199_54 (xc_V (pc' := 57) (r := r0) (as := [.ref 89, vI 0, vI 99]) (st := []) (lm_9_216) rfl rfl (Nat.le_of_ble_eq_true rfl) w283 g0 sh_42 (by decide) rfl (by decide) (u_182_o (fo := (xh B n ((xN B n q)) 0 23)) (po := (((xN B n q)))) (kk := 307) w283 g0 rfl ⟨by omega, by omega⟩ ⟨by omega, by omega⟩ q472 grb (by decide +kernel) p468) (fun R473 T474 H475 p476 => ?_))
        obtain ⟨e477, e479, z480, e478, b481, p482⟩ := p476
        subst e477
        subst e478
        subst e479
        obtain ⟨a483, a484⟩ := p482
        show wp _ _ 199 57 [(1, vI z285), (0, .ref r0)] [vI z480] _ H279 _
        have u485 := RO_k a484
        refine wp_of e199 c199_57 (rw_istore_n (pc' := 58) (z := z480) (L' := [(2, vI z480), (1, vI z285), (0, .ref r0)]) rfl rfl rfl ?_)
        refine wp_of e199 c199_58 (rw_aload_n (pc' := 59) (v := .ref r0) rfl rfl rfl ?_)
        refine wp_of e199 c199_59 (xg_I (pc' := 62) lf_9_75 w283 g0 sh_42 (by decide) (by decide) ty_42_9 rfl rfl (fun b486 b487 => ?_))
        refine wp_of e199 c199_62 (rw_iconst (pc' := 63) rfl ?_)
        refine wp_of e199 c199_63 (rw_icmp_ne (p1 := 67) (p2 := 66) (by decide) rfl ⟨by omega, by omega⟩ ⟨by omega, by omega⟩ (fun c488 => ?_) (fun c488 => ?_))
        · exfalso
          omega
        · have o489 : (xl5 B n q d) = (xsh B n (xN B n q) d, (xN B n q), (xN B n q)) := by
            unfold xl5 xst
            repeat first | rw [xs_0 (by omega)] | rw [xs_1 (by omega)] | rw [if_pos (by omega)] | rw [if_neg (by omega)]
            first | done | rfl | assumption | (exfalso; omega) | (refine Prod.ext ?_ (Prod.ext ?_ ?_) <;> (try dsimp only) <;> omega)
          have o489a : ((xl5 B n q d)).1 = xsh B n (xN B n q) d := by rw [o489]
          have o489b : ((xl5 B n q d)).2.1 = (xN B n q) := by rw [o489]
          have o489c : ((xl5 B n q d)).2.2 = (xN B n q) := by rw [o489]
          exact wp_return e199 c199_66 rfl ⟨rfl, w283, f456, rfl, (Or.inr ⟨by omega, RO_eq a484 (by omega) (by omega)⟩)⟩
      · exfalso
        omega
  · have f490 := f0.tr f269 rfl
    show wp _ _ 199 10 [(0, .ref r0)] [] _ H264 _
    have u491 := RO_k a274
    refine wp_of e199 c199_10 (rw_aload_n (pc' := 11) (v := .ref r0) rfl rfl rfl ?_)
    refine wp_of e199 c199_11 (rw_iconst (pc' := 12) rfl ?_)
    refine wp_of e199 c199_12 (rw_bipush (pc' := 14) (z := 23) rfl (by decide) ?_)
    refine wp_of e199 c199_14 (xc_V (pc' := 17) (r := r0) (as := [vI 0, vI 23]) (st := []) (lm_9_129) rfl rfl (Nat.le_of_ble_eq_true rfl) w268 g0 sh_42 (by decide) rfl (by decide) (u_185_o (fo := 5) (po := q) w268 g0 ⟨by omega, by omega⟩ ⟨by omega, by omega⟩ a274) (fun R492 T493 H494 p495 => ?_))
    obtain ⟨e496, e498, z499, e497, b500, p501⟩ := p495
    subst e496
    subst e497
    subst e498
    obtain ⟨a502, a503⟩ := p501
    show wp _ _ 199 17 [(0, .ref r0)] [vI z499] _ H264 _
    have u504 := RO_k a503
    refine wp_of e199 c199_17 (rw_istore_n (pc' := 18) (z := z499) (L' := [(1, vI z499), (0, .ref r0)]) rfl rfl rfl ?_)
    refine wp_of e199 c199_18 (rw_aload_n (pc' := 19) (v := .ref r0) rfl rfl rfl ?_)
    refine wp_of e199 c199_19 (xg_I (pc' := 22) lf_9_75 w268 g0 sh_42 (by decide) (by decide) ty_42_9 rfl rfl (fun b505 b506 => ?_))
    refine wp_of e199 c199_22 (rw_iconst (pc' := 23) rfl ?_)
    refine wp_of e199 c199_23 (rw_icmp_eq (p1 := 43) (p2 := 26) (by decide) rfl ⟨by omega, by omega⟩ ⟨by omega, by omega⟩ (fun c507 => ?_) (fun c507 => ?_))
    · refine wp_of e199 c199_43 (rw_aload_n (pc' := 44) (v := .ref r0) rfl rfl rfl ?_)
      refine wp_of e199 c199_44 (xc_V (pc' := 47) (r := r0) (as := []) (st := []) (lm_9_118) rfl rfl (Nat.le_of_ble_eq_true rfl) w268 g0 sh_42 (by decide) rfl (by decide) (u_172_o (fo := 5) (po := q) w268 g0 a503) (fun R508 T509 H510 p511 => ?_))
      obtain ⟨e512, e514, e513, p515⟩ := p511
      subst e512
      subst e513
      subst e514
      show wp _ _ 199 47 [(1, vI z499), (0, .ref r0)] [] _ H264 _
      have u517 := RO_k p515
      refine wp_of e199 c199_47 (rw_aload_n (pc' := 48) (v := .ref r0) rfl rfl rfl ?_)
      refine wp_of e199 c199_48 (rw_ldc_wS (pc' := 51) (k := 89) rfl rfl rfl rfl ?_)
      refine wp_of e199 c199_51 (rw_iconst (pc' := 52) rfl ?_)
      refine wp_of e199 c199_52 (rw_bipush (pc' := 54) (z := 99) rfl (by decide) ?_)
      have k518 : H264 r0 5 = H r0 5 := (f269 r0 5 _ g0 rfl)
      have q519 : H264 r0 5 = (rb : Int) := k518.trans qrb
      refine wp_of e199 c199_54 (xc_V (pc' := 57) (r := r0) (as := [.ref 89, vI 0, vI 99]) (st := []) (lm_9_216) rfl rfl (Nat.le_of_ble_eq_true rfl) w268 g0 sh_42 (by decide) rfl (by decide) (u_182_o (fo := 5) (po := q) (kk := 307) w268 g0 rfl ⟨by omega, by omega⟩ ⟨by omega, by omega⟩ q519 grb (by decide +kernel) p515) (fun R520 T521 H522 p523 => ?_))
      obtain ⟨e524, e526, z527, e525, b528, p529⟩ := p523
      subst e524
      subst e525
      subst e526
      obtain ⟨a530, a531⟩ := p529
      show wp _ _ 199 57 [(1, vI z499), (0, .ref r0)] [vI z527] _ H264 _
      have u532 := RO_k a531
      refine wp_of e199 c199_57 (rw_istore_n (pc' := 58) (z := z527) (L' := [(2, vI z527), (1, vI z499), (0, .ref r0)]) rfl rfl rfl ?_)
      refine wp_of e199 c199_58 (rw_aload_n (pc' := 59) (v := .ref r0) rfl rfl rfl ?_)
      refine wp_of e199 c199_59 (xg_I (pc' := 62) lf_9_75 w268 g0 sh_42 (by decide) (by decide) ty_42_9 rfl rfl (fun b533 b534 => ?_))
      refine wp_of e199 c199_62 (rw_iconst (pc' := 63) rfl ?_)
      refine wp_of e199 c199_63 (rw_icmp_ne (p1 := 67) (p2 := 66) (by decide) rfl ⟨by omega, by omega⟩ ⟨by omega, by omega⟩ (fun c535 => ?_) (fun c535 => ?_))
      · exfalso
        omega
      · have o536 : (xl5 B n q d) = (5, q, q) := by
          unfold xl5 xst
          repeat first | rw [xs_0 (by omega)] | rw [xs_1 (by omega)] | rw [if_pos (by omega)] | rw [if_neg (by omega)]
          first | done | rfl | assumption | (exfalso; omega) | (refine Prod.ext ?_ (Prod.ext ?_ ?_) <;> (try dsimp only) <;> omega)
        have o536a : ((xl5 B n q d)).1 = 5 := by rw [o536]
        have o536b : ((xl5 B n q d)).2.1 = q := by rw [o536]
        have o536c : ((xl5 B n q d)).2.2 = q := by rw [o536]
        exact wp_return e199 c199_66 rfl ⟨rfl, w268, f490, rfl, (Or.inr ⟨by omega, RO_eq a531 (by omega) (by omega)⟩)⟩
    · exfalso
      omega
/-! StrikeAwakeModel.readStruck()V o -/
abbrev uq_199_o (r0 : Nat) (rp : Nat) (rb : Nat) (fo : Int) (po : Int) (T : wq_T) (H : wq_H) : Option Value → wq_T → wq_H → Prop := fun r T' H' => T = T' ∧ H = H' ∧ none = r ∧ ((RO T H r0 fo po))
set_option maxHeartbeats 4000000 in
theorem u_199_o {kt : Nat → Option mc_E} {T : wq_T} {H : wq_H} {r0 : Nat} {rp : Nat} {rb : Nat} {fo : Int} {po : Int} (hW : WT T H) (g0 : T.2.2.2 r0 = some 42) (qrp : H r0 4 = (rp : Int)) (grp : T.2.2.2 rp = some 54) (qrb : H r0 5 = (rb : Int)) (grb : T.2.2.2 rb = some 43) (hRO_r0 : RO T H r0 fo po) : wpc kt 5 199 [.ref r0] T H (uq_199_o r0 rp rb fo po T H) := by
  refine wp_enter e199 (Nat.le_of_ble_eq_true rfl) rfl ?_
  show wp _ _ 199 0 [(0, .ref r0)] [] _ H _
  have u51 := RO_k hRO_r0
  refine wp_of e199 c199_0 (rw_aload_n (pc' := 1) (v := .ref r0) rfl rfl rfl ?_)
  refine wp_of e199 c199_1 (rw_aload_n (pc' := 2) (v := .ref r0) rfl rfl rfl ?_)
  refine wp_of e199 c199_2 (xg_I (pc' := 5) lf_9_293 hW g0 sh_42 (by decide) (by decide) ty_42_16 rfl rfl (fun b52 b53 => ?_))
  refine wp_of e199 c199_5 (rw_bipush (pc' := 7) (z := 24) rfl (by decide) ?_)
  refine wp_of e199 c199_7 (xc_V (pc' := 10) (r := r0) (as := [vI (H r0 16), vI 24]) (st := []) (lm_9_228) rfl rfl (Nat.le_of_ble_eq_true rfl) hW g0 sh_42 (by decide) rfl (by decide) (u_188_o (fo := fo) (po := po) hW g0 ⟨by omega, by omega⟩ ⟨by omega, by omega⟩ qrb grb hRO_r0) (fun R54 T55 H56 p57 => ?_))
  obtain ⟨e58, e60, e59, p61⟩ := p57
  subst e58
  subst e59
  subst e60
  show wp _ _ 199 10 [(0, .ref r0)] [] _ H _
  have u63 := RO_k p61
  refine wp_of e199 c199_10 (rw_aload_n (pc' := 11) (v := .ref r0) rfl rfl rfl ?_)
  refine wp_of e199 c199_11 (rw_iconst (pc' := 12) rfl ?_)
  refine wp_of e199 c199_12 (rw_bipush (pc' := 14) (z := 23) rfl (by decide) ?_)
  refine wp_of e199 c199_14 (xc_V (pc' := 17) (r := r0) (as := [vI 0, vI 23]) (st := []) (lm_9_129) rfl rfl (Nat.le_of_ble_eq_true rfl) hW g0 sh_42 (by decide) rfl (by decide) (u_185_o (fo := fo) (po := po) hW g0 ⟨by omega, by omega⟩ ⟨by omega, by omega⟩ p61) (fun R64 T65 H66 p67 => ?_))
  obtain ⟨e68, e70, z71, e69, b72, p73⟩ := p67
  subst e68
  subst e69
  subst e70
  obtain ⟨a74, a75⟩ := p73
  show wp _ _ 199 17 [(0, .ref r0)] [vI z71] _ H _
  have u76 := RO_k a75
  refine wp_of e199 c199_17 (rw_istore_n (pc' := 18) (z := z71) (L' := [(1, vI z71), (0, .ref r0)]) rfl rfl rfl ?_)
  refine wp_of e199 c199_18 (rw_aload_n (pc' := 19) (v := .ref r0) rfl rfl rfl ?_)
  refine wp_of e199 c199_19 (xg_I (pc' := 22) lf_9_75 hW g0 sh_42 (by decide) (by decide) ty_42_9 rfl rfl (fun b77 b78 => ?_))
  refine wp_of e199 c199_22 (rw_iconst (pc' := 23) rfl ?_)
  refine wp_of e199 c199_23 (rw_icmp_eq (p1 := 43) (p2 := 26) (by decide) rfl ⟨by omega, by omega⟩ ⟨by omega, by omega⟩ (fun c79 => ?_) (fun c79 => ?_))
  · refine wp_of e199 c199_43 (rw_aload_n (pc' := 44) (v := .ref r0) rfl rfl rfl ?_)
    refine wp_of e199 c199_44 (xc_V (pc' := 47) (r := r0) (as := []) (st := []) (lm_9_118) rfl rfl (Nat.le_of_ble_eq_true rfl) hW g0 sh_42 (by decide) rfl (by decide) (u_172_o (fo := fo) (po := po) hW g0 a75) (fun R80 T81 H82 p83 => ?_))
    obtain ⟨e84, e86, e85, p87⟩ := p83
    subst e84
    subst e85
    subst e86
    show wp _ _ 199 47 [(1, vI z71), (0, .ref r0)] [] _ H _
    have u89 := RO_k p87
    refine wp_of e199 c199_47 (rw_aload_n (pc' := 48) (v := .ref r0) rfl rfl rfl ?_)
    refine wp_of e199 c199_48 (rw_ldc_wS (pc' := 51) (k := 89) rfl rfl rfl rfl ?_)
    refine wp_of e199 c199_51 (rw_iconst (pc' := 52) rfl ?_)
    refine wp_of e199 c199_52 (rw_bipush (pc' := 54) (z := 99) rfl (by decide) ?_)
    refine wp_of e199 c199_54 (xc_V (pc' := 57) (r := r0) (as := [.ref 89, vI 0, vI 99]) (st := []) (lm_9_216) rfl rfl (Nat.le_of_ble_eq_true rfl) hW g0 sh_42 (by decide) rfl (by decide) (u_182_o (fo := fo) (po := po) (kk := 307) hW g0 rfl ⟨by omega, by omega⟩ ⟨by omega, by omega⟩ qrb grb (by decide +kernel) p87) (fun R90 T91 H92 p93 => ?_))
    obtain ⟨e94, e96, z97, e95, b98, p99⟩ := p93
    subst e94
    subst e95
    subst e96
    obtain ⟨a100, a101⟩ := p99
    show wp _ _ 199 57 [(1, vI z71), (0, .ref r0)] [vI z97] _ H _
    have u102 := RO_k a101
    refine wp_of e199 c199_57 (rw_istore_n (pc' := 58) (z := z97) (L' := [(2, vI z97), (1, vI z71), (0, .ref r0)]) rfl rfl rfl ?_)
    refine wp_of e199 c199_58 (rw_aload_n (pc' := 59) (v := .ref r0) rfl rfl rfl ?_)
    refine wp_of e199 c199_59 (xg_I (pc' := 62) lf_9_75 hW g0 sh_42 (by decide) (by decide) ty_42_9 rfl rfl (fun b103 b104 => ?_))
    refine wp_of e199 c199_62 (rw_iconst (pc' := 63) rfl ?_)
    refine wp_of e199 c199_63 (rw_icmp_ne (p1 := 67) (p2 := 66) (by decide) rfl ⟨by omega, by omega⟩ ⟨by omega, by omega⟩ (fun c105 => ?_) (fun c105 => ?_))
    · exfalso
      omega
    · exact wp_return e199 c199_66 rfl ⟨rfl, rfl, rfl, (a101)⟩
  · exfalso
    omega
