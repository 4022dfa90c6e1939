/-! what methods do (own work, written by wip/gen3/sx3.py) -/
/-! StrikeAwake$Reader.readsLine(LStrikeAwake$Parish;)Z  -/
abbrev uq_17 (r0 : Nat) (r1 : Nat) (tk : Nat) (rb : Nat) (B : Nat → Int) (n : Int) (q : Int) (d : xD) (T : wq_T) (H : wq_H) : Option Value → wq_T → wq_H → Prop := fun r T' H' => T = T' ∧ WT T H' ∧ wfr [(27, 7), (27, 8), (27, 9), (27, 10), (27, 11), (27, 12), (27, 13), (27, 14), (27, 15), (27, 16), (35, 6), (35, 7), (35, 8), (35, 9), (35, 10), (35, 11), (35, 12), (35, 13), (35, 14), (35, 15), (35, 16), (35, 17), (3, 1), (3, 2), (3, 3), (3, 4), (4, 2), (4, 3), (4, 4), (4, 5), (4, 6), (31, 999), (34, 999), (29, 999), (30, 999), (33, 999), (32, 999)] T H H' ∧ ∃ z : Int, some (vI z) = r ∧ (0 ≤ z ∧ z ≤ 1) ∧ (((z = 1) ∧ ((xline B n q d).1 = 0) ∧ (q ≤ (xline B n q d).2.2) ∧ TC T H' tk B n (xline B n q d).2.2 ∧ DC T H' r1 (xdline B n q d)) ∨ ((z = 0) ∧ ((xline B n q d).1 ≠ 0) ∧ ((xline B n q d).2.2 = (xline B n q d).2.1) ∧ (H' r0 3 = (xline B n q d).1) ∧ (H' r0 4 = (xline B n q d).2.1)))
set_option maxHeartbeats 4000000 in
theorem u_17 {kt : Nat → Option mc_E} {T : wq_T} {H : wq_H} {r0 : Nat} {r1 : Nat} {tk : Nat} {rb : Nat} {B : Nat → Int} {n : Int} {q : Int} {d : xD} (hW : WT T H) (g0 : T.2.2.2 r0 = some 3) (g1 : T.2.2.2 r1 = some 27) (qtk : H r0 0 = (tk : Int)) (gtk : T.2.2.2 tk = some 4) (qrb : H tk 0 = (rb : Int)) (grb : T.2.2.2 rb = some 2) (hTC_tk : TC T H tk B n q) (hDC_r1 : DC T H r1 d) (hDD_r1 : DD T H r1 ) : wpc kt 6 17 [.ref r0, .ref r1] T H (uq_17 r0 r1 tk rb B n q d T H) := by
  refine wp_enter e17 (Nat.le_of_ble_eq_true rfl) rfl ?_
  have f0 : wfr [(27, 7), (27, 8), (27, 9), (27, 10), (27, 11), (27, 12), (27, 13), (27, 14), (27, 15), (27, 16), (35, 6), (35, 7), (35, 8), (35, 9), (35, 10), (35, 11), (35, 12), (35, 13), (35, 14), (35, 15), (35, 16), (35, 17), (3, 1), (3, 2), (3, 3), (3, 4), (4, 2), (4, 3), (4, 4), (4, 5), (4, 6), (31, 999), (34, 999), (29, 999), (30, 999), (33, 999), (32, 999)] T H H := wfr.rf
  show wp _ _ 17 0 [(0, .ref r0), (1, .ref r1)] [] _ H _
  have u237406 := TC_k hTC_tk
  have u237407 := DC_k hDC_r1
  have _b := @xre_b B n q
  have _s := @xsx_e (d 0 8)
  refine wp_of e17 c17_0 (rw_aload_n (pc' := 1) (v := .ref r0) rfl rfl rfl ?_)
  refine wp_of e17 c17_1 (xc_V (pc' := 4) (r := r0) (as := []) (st := []) (lm_1_54) rfl rfl (Nat.le_of_ble_eq_true rfl) hW g0 sh_3 (by decide) rfl (by decide) (u_18 (B := B) (n := n) (q := q) hW g0 qtk gtk qrb grb hTC_tk) (fun R237408 T237409 H237410 p237411 => ?_))
  obtain ⟨e237412, e237414, e237413⟩ := p237411
  subst e237412
  subst e237414
  rcases e237413 with ⟨e237413, b237418⟩ | ⟨r237415, e237413, b237416, b237417, b237418⟩
  · subst e237413
    show wp _ _ 17 4 [(0, .ref r0), (1, .ref r1)] [.null] _ H _
    refine wp_of e17 c17_4 (rw_astore_n (pc' := 5) (v := .null) (L' := [(2, .null), (0, .ref r0), (1, .ref r1)]) rfl rfl rfl rfl ?_)
    refine wp_of e17 c17_5 (rw_aload_n (pc' := 6) (v := .null) rfl rfl rfl ?_)
    refine wp_of e17 c17_6 (rw_ifnull_n (p1 := 16) (p2 := 9) (by decide) rfl ?_)
    refine wp_of e17 c17_16 (rw_aload_n (pc' := 17) (v := .ref r0) rfl rfl rfl ?_)
    refine wp_of e17 c17_17 (rw_iconst (pc' := 18) rfl ?_)
    refine wp_of e17 c17_18 (xc_V (pc' := 21) (r := r0) (as := [vI 1]) (st := []) (lm_1_47) rfl rfl (Nat.le_of_ble_eq_true rfl) hW g0 sh_3 (by decide) rfl (by decide) (u_20  hW g0 ⟨by omega, by omega⟩ qtk gtk) (fun R237419 T237420 H237421 p237422 => ?_))
    obtain ⟨e237423, w237425, f237426, z237427, e237424, b237428, p237429⟩ := p237422
    subst e237423
    subst e237424
    obtain ⟨a237430, a237431, a237432⟩ := p237429
    have f237433 := f0.tr f237426 rfl
    show wp _ _ 17 21 [(2, .null), (0, .ref r0), (1, .ref r1)] [vI z237427] _ H237421 _
    have o237434 : (xline B n q d) = (1, q, q) := by
      unfold xline xl0 xl1 xl2 xl3 xl4 xl5 xl6 xl7 xper
      repeat first | rw [xs_0 (by omega)] | rw [xs_1 (by omega)] | rw [if_pos (by omega)] | rw [if_neg (by omega)]
      first | done | rfl | assumption | (exfalso; omega) | (refine Prod.ext ?_ (Prod.ext ?_ ?_) <;> (try dsimp only) <;> omega)
    have o237434a : ((xline B n q d)).1 = 1 := by rw [o237434]
    have o237434b : ((xline B n q d)).2.1 = q := by rw [o237434]
    have o237434c : ((xline B n q d)).2.2 = q := by rw [o237434]
    exact wp_zreturn e17 c17_21 rfl (by omega) ⟨rfl, w237425, f237433, z237427, rfl, ⟨by omega, by omega⟩, (Or.inr ⟨by omega, by omega, by omega, by omega, by omega⟩)⟩
  · subst e237413
    have c237435 : r237415 = 16 ∨ r237415 = 17 ∨ r237415 = 18 ∨ r237415 = 19 ∨ r237415 = 20 ∨ r237415 = 21 ∨ r237415 = 22 ∨ r237415 = 23 ∨ r237415 = 24 ∨ r237415 = 25 ∨ r237415 = 26 := by omega
    rcases c237435 with c237435 | c237435 | c237435 | c237435 | c237435 | c237435 | c237435 | c237435 | c237435 | c237435 | c237435
    · subst c237435
      show wp _ _ 17 4 [(0, .ref r0), (1, .ref r1)] [.ref 16] _ H _
      refine wp_of e17 c17_4 (rw_astore_n (pc' := 5) (v := .ref 16) (L' := [(2, .ref 16), (0, .ref r0), (1, .ref r1)]) rfl rfl rfl rfl ?_)
      refine wp_of e17 c17_5 (rw_aload_n (pc' := 6) (v := .ref 16) rfl rfl rfl ?_)
      refine wp_of e17 c17_6 (rw_ifnull_r (p1 := 16) (p2 := 9) (by decide) rfl ?_)
      refine wp_of e17 c17_9 (rw_aload_n (pc' := 10) (v := .ref 16) rfl rfl rfl ?_)
      have k237436 : H 16 1 = 1 := (hW.2 16 _ (hW.1.2.2 0 (by decide))).2.2 1 (by decide) |> fun z => by have z1 : (1 : Int) ≤ H 16 1 ∧ H 16 1 ≤ 1 := z; omega
      refine wp_of e17 c17_10 (rw_getI (pc' := 13) (n := 2) (e := _) (lf_1_58).choose_spec.1 (lf_1_58).choose_spec.2.1 (hW.sh (hW.1.2.2 0 (by decide)) rfl) (by decide) rfl rfl ?_)
      rw [k237436]
      refine wp_of e17 c17_13 (rw_if_ne (p1 := 22) (p2 := 16) (by decide) rfl ⟨by omega, by omega⟩ (fun c237437 => ?_) (fun c237437 => ?_))
      · refine wp_of e17 c17_22 (rw_aload_n (pc' := 23) (v := .ref r1) rfl rfl rfl ?_)
        refine wp_of e17 c17_23 (rw_aload_n (pc' := 24) (v := .ref 16) rfl rfl rfl ?_)
        refine wp_of e17 c17_24 (xc_V (pc' := 27) (r := r1) (as := [.ref 16]) (st := []) (lm_1_63) rfl rfl (Nat.le_of_ble_eq_true rfl) hW g1 sh_27 (by decide) rfl (by decide) (u_21_16  hW g1) (fun R237438 T237439 H237440 p237441 => ?_))
        obtain ⟨e237442, e237444, z237445, e237443, b237446, p237447⟩ := p237441
        subst e237442
        subst e237443
        subst e237444
        rcases p237447 with ⟨a237448, a237449⟩ | ⟨a237450, a237451⟩
        · show wp _ _ 17 27 [(2, .ref 16), (0, .ref r0), (1, .ref r1)] [vI z237445] _ H _
          refine wp_of e17 c17_27 (rw_aload_n (pc' := 28) (v := .ref 16) rfl rfl rfl ?_)
          have k237452 : H 16 1 = 1 := (hW.2 16 _ (hW.1.2.2 0 (by decide))).2.2 1 (by decide) |> fun z => by have z1 : (1 : Int) ≤ H 16 1 ∧ H 16 1 ≤ 1 := z; omega
          refine wp_of e17 c17_28 (rw_getI (pc' := 31) (n := 2) (e := _) (lf_1_58).choose_spec.1 (lf_1_58).choose_spec.2.1 (hW.sh (hW.1.2.2 0 (by decide)) rfl) (by decide) rfl rfl ?_)
          rw [k237452]
          refine wp_of e17 c17_31 (rw_icmp_lt (p1 := 68) (p2 := 34) (by decide) rfl ⟨by omega, by omega⟩ ⟨by omega, by omega⟩ (fun c237453 => ?_) (fun c237453 => ?_))
          · exfalso
            omega
          · refine wp_of e17 c17_34 (rw_aload_n (pc' := 35) (v := .ref 16) rfl rfl rfl ?_)
            refine wp_of e17 c17_35 (rw_gs (pc' := 38) (k := 16) rfl rfl rfl rfl ?_)
            refine wp_of e17 c17_38 (rw_acmp_eq (p1 := 48) (p2 := 41) (a := some 16) (b := some 16) rfl rfl (by decide) rfl (fun q9 => ?_) (fun q9 => absurd q9 (by decide)))
            refine wp_of e17 c17_48 (rw_iconst (pc' := 49) rfl ?_)
            refine wp_of e17 c17_49 (rw_goto (p1 := 53) (by decide) ?_)
            refine wp_of e17 c17_53 (rw_istore_n (pc' := 54) (z := 1) (L' := [(3, vI 1), (2, .ref 16), (0, .ref r0), (1, .ref r1)]) rfl rfl rfl ?_)
            refine wp_of e17 c17_54 (rw_aload_n (pc' := 55) (v := .ref r0) rfl rfl rfl ?_)
            refine wp_of e17 c17_55 (rw_iload_n (pc' := 56) (z := 1) rfl rfl ?_)
            refine wp_of e17 c17_56 (rw_if_eq (p1 := 63) (p2 := 59) (by decide) rfl ⟨by omega, by omega⟩ (fun c237454 => ?_) (fun c237454 => ?_))
            · exfalso
              omega
            · refine wp_of e17 c17_59 (rw_iconst (pc' := 60) rfl ?_)
              refine wp_of e17 c17_60 (rw_goto (p1 := 64) (by decide) ?_)
              refine wp_of e17 c17_64 (xc_V (pc' := 67) (r := r0) (as := [vI 3]) (st := []) (lm_1_47) rfl rfl (Nat.le_of_ble_eq_true rfl) hW g0 sh_3 (by decide) rfl (by decide) (u_20  hW g0 ⟨by omega, by omega⟩ qtk gtk) (fun R237455 T237456 H237457 p237458 => ?_))
              obtain ⟨e237459, w237461, f237462, z237463, e237460, b237464, p237465⟩ := p237458
              subst e237459
              subst e237460
              obtain ⟨a237466, a237467, a237468⟩ := p237465
              have f237469 := f0.tr f237462 rfl
              show wp _ _ 17 67 [(3, vI 1), (2, .ref 16), (0, .ref r0), (1, .ref r1)] [vI z237463] _ H237457 _
              have o237470 : (xline B n q d) = (3, q, q) := by
                unfold xline xl0 xl1 xl2 xl3 xl4 xl5 xl6 xl7 xper
                repeat first | rw [xs_0 (by omega)] | rw [xs_1 (by omega)] | rw [if_pos (by omega)] | rw [if_neg (by omega)]
                first | done | rfl | assumption | (exfalso; omega) | (refine Prod.ext ?_ (Prod.ext ?_ ?_) <;> (try dsimp only) <;> omega)
              have o237470a : ((xline B n q d)).1 = 3 := by rw [o237470]
              have o237470b : ((xline B n q d)).2.1 = q := by rw [o237470]
              have o237470c : ((xline B n q d)).2.2 = q := by rw [o237470]
              exact wp_zreturn e17 c17_67 rfl (by omega) ⟨rfl, w237461, f237469, z237463, rfl, ⟨by omega, by omega⟩, (Or.inr ⟨by omega, by omega, by omega, by omega, by omega⟩)⟩
        · show wp _ _ 17 27 [(2, .ref 16), (0, .ref r0), (1, .ref r1)] [vI z237445] _ H _
          refine wp_of e17 c17_27 (rw_aload_n (pc' := 28) (v := .ref 16) rfl rfl rfl ?_)
          have k237471 : H 16 1 = 1 := (hW.2 16 _ (hW.1.2.2 0 (by decide))).2.2 1 (by decide) |> fun z => by have z1 : (1 : Int) ≤ H 16 1 ∧ H 16 1 ≤ 1 := z; omega
          refine wp_of e17 c17_28 (rw_getI (pc' := 31) (n := 2) (e := _) (lf_1_58).choose_spec.1 (lf_1_58).choose_spec.2.1 (hW.sh (hW.1.2.2 0 (by decide)) rfl) (by decide) rfl rfl ?_)
          rw [k237471]
          refine wp_of e17 c17_31 (rw_icmp_lt (p1 := 68) (p2 := 34) (by decide) rfl ⟨by omega, by omega⟩ ⟨by omega, by omega⟩ (fun c237472 => ?_) (fun c237472 => ?_))
          · refine wp_of e17 c17_68 (rw_aload_n (pc' := 69) (v := .ref r0) rfl rfl rfl ?_)
            refine wp_of e17 c17_69 (xg_K (pc' := 72) lf_1_12 hW g0 sh_3 (by decide) (by decide) rfl qtk rfl ?_)
            have h237473 : TP T H rb B := TC_tp hTC_tk qrb
            refine wp_of e17 c17_72 (xc_V (pc' := 75) (r := tk) (as := []) (st := []) (lm_1_74) rfl rfl (Nat.le_of_ble_eq_true rfl) hW gtk sh_4 (by decide) rfl (by decide) (u_16 (B := B) (n := n) (a := (xE B n q)) (q := (xN B n q)) hW gtk qrb grb (by omega) (by omega) (by omega) (rfl) h237473) (fun R237474 T237475 H237476 p237477 => ?_))
            obtain ⟨e237478, w237480, f237481, e237479, p237482⟩ := p237477
            subst e237478
            subst e237479
            have f237484 := f0.tr f237481 rfl
            show wp _ _ 17 75 [(2, .ref 16), (0, .ref r0), (1, .ref r1)] [] _ H237476 _
            have u237485 := TC_k p237482
            refine wp_of e17 c17_75 (rw_gs (pc' := 78) (k := 2) rfl rfl rfl rfl ?_)
            refine wp_of e17 c17_78 (rw_aload_n (pc' := 79) (v := .ref 16) rfl rfl rfl ?_)
            refine wp_of e17 c17_79 (rw_ord (pc' := 82) rfl rfl rfl (by decide) (Nat.le_of_ble_eq_true rfl) rfl ?_)
            show wp _ _ 17 82 [(2, .ref 16), (0, .ref r0), (1, .ref r1)] [vI 0, .ref 2] _ H237476 _
            have k237486 : H237476 2 (0 : Int).toNat = 1 := (w237480.2 2 _ w237480.1.2.1).2.2 0 (by decide) |> fun z => by have z1 : (1 : Int) ≤ H237476 2 0 ∧ H237476 2 0 ≤ 1 := z; exact Int.le_antisymm z1.2 z1.1
            refine wp_of e17 c17_82 (rw_iaload (pc' := 83) (n := 11) (w237480.sh w237480.1.2.1 rfl) (by decide) (by decide) (by decide) rfl rfl ?_)
            rw [k237486]
            refine wp_of e17 c17_83 (rw_tsw (p1 := 128) ⟨by omega, by omega⟩ (by decide) ?_)
            refine wp_of e17 c17_128 (rw_aload_n (pc' := 129) (v := .ref r0) rfl rfl rfl ?_)
            refine wp_of e17 c17_129 (rw_aload_n (pc' := 130) (v := .ref r1) rfl rfl rfl ?_)
            have k237488 : H237476 r0 0 = H r0 0 := (f237481 r0 0 _ g0 rfl)
            have q237489 : H237476 r0 0 = (tk : Int) := k237488.trans qtk
            have k237490 : H237476 tk 0 = H tk 0 := (f237481 tk 0 _ gtk rfl)
            have q237491 : H237476 tk 0 = (rb : Int) := k237490.trans qrb
            have h237492 : DC T H237476 r1 d := (DC_fr hW g1 f237481 rfl hDC_r1)
            refine wp_of e17 c17_130 (xc_V (pc' := 133) (r := r0) (as := [.ref r1]) (st := []) (lm_1_87) rfl rfl (Nat.le_of_ble_eq_true rfl) w237480 g0 sh_3 (by decide) rfl (by decide) (u_22 (B := B) (n := n) (q := ((xN B n q))) (d := d) w237480 g0 g1 q237489 gtk q237491 grb p237482 h237492) (fun R237493 T237494 H237495 p237496 => ?_))
            obtain ⟨e237497, w237499, f237500, z237501, e237498, b237502, p237503⟩ := p237496
            subst e237497
            subst e237498
            rcases p237503 with ⟨a237504, a237505, a237506, a237507, a237508, a237509⟩ | ⟨a237510, a237511, a237512, a237513, a237514⟩
            · have f237515 := f237484.tr f237500 rfl
              show wp _ _ 17 133 [(2, .ref 16), (0, .ref r0), (1, .ref r1)] [vI z237501] _ H237495 _
              have u237516 := TC_k a237508
              have u237517 := DC_k a237509
              have o237518 : (xline B n q d) = (0, ((xN B n q)), (xN B n (xN B n (xN B n (xN B n (xN B n (xN B n ((xN B n q))))))))) := by
                unfold xline xl0 xl1 xl2 xl3 xl4 xl5 xl6 xl7 xper
                repeat first | rw [xs_0 (by omega)] | rw [xs_1 (by omega)] | rw [if_pos (by omega)] | rw [if_neg (by omega)]
                first | done | rfl | assumption | (exfalso; omega) | (refine Prod.ext ?_ (Prod.ext ?_ ?_) <;> (try dsimp only) <;> omega)
              have o237518a : ((xline B n q d)).1 = 0 := by rw [o237518]
              have o237518b : ((xline B n q d)).2.1 = ((xN B n q)) := by rw [o237518]
              have o237518c : ((xline B n q d)).2.2 = (xN B n (xN B n (xN B n (xN B n (xN B n (xN B n ((xN B n q)))))))) := by rw [o237518]
              have o237519 : xdline B n q d = ((xdlaw B n ((xN B n q)) d)) := by
                unfold xdline
                repeat first | rw [xs_0 (by omega)] | rw [xs_1 (by omega)] | rw [if_pos (by omega)] | rw [if_neg (by omega)]
                first | done | rfl
              exact wp_zreturn e17 c17_133 rfl (by omega) ⟨rfl, w237499, f237515, z237501, rfl, ⟨by omega, by omega⟩, (Or.inl ⟨by omega, by omega, by omega, by rw [o237518]; exact a237508, by rw [o237519]; exact a237509⟩)⟩
            · have f237520 := f237484.tr f237500 rfl
              show wp _ _ 17 133 [(2, .ref 16), (0, .ref r0), (1, .ref r1)] [vI z237501] _ H237495 _
              have o237521 : (xline B n q d) = ((xlaw B n ((xN B n q))).1, (xlaw B n ((xN B n q))).2.1, (xlaw B n ((xN B n q))).2.2) := by
                unfold xline xl0 xl1 xl2 xl3 xl4 xl5 xl6 xl7 xper
                repeat first | rw [xs_0 (by omega)] | rw [xs_1 (by omega)] | rw [if_pos (by omega)] | rw [if_neg (by omega)]
                first | done | rfl | assumption | (exfalso; omega) | (refine Prod.ext ?_ (Prod.ext ?_ ?_) <;> (try dsimp only) <;> omega)
              have o237521a : ((xline B n q d)).1 = (xlaw B n ((xN B n q))).1 := by rw [o237521]
              have o237521b : ((xline B n q d)).2.1 = (xlaw B n ((xN B n q))).2.1 := by rw [o237521]
              have o237521c : ((xline B n q d)).2.2 = (xlaw B n ((xN B n q))).2.2 := by rw [o237521]
              exact wp_zreturn e17 c17_133 rfl (by omega) ⟨rfl, w237499, f237520, z237501, rfl, ⟨by omega, by omega⟩, (Or.inr ⟨by omega, by omega, by omega, by omega, by omega⟩)⟩
          · exfalso
            omega
      · exfalso
        omega
    · subst c237435
      show wp _ _ 17 4 [(0, .ref r0), (1, .ref r1)] [.ref 17] _ H _
      refine wp_of e17 c17_4 (rw_astore_n (pc' := 5) (v := .ref 17) (L' := [(2, .ref 17), (0, .ref r0), (1, .ref r1)]) rfl rfl rfl rfl ?_)
      refine wp_of e17 c17_5 (rw_aload_n (pc' := 6) (v := .ref 17) rfl rfl rfl ?_)
      refine wp_of e17 c17_6 (rw_ifnull_r (p1 := 16) (p2 := 9) (by decide) rfl ?_)
      refine wp_of e17 c17_9 (rw_aload_n (pc' := 10) (v := .ref 17) rfl rfl rfl ?_)
      have k237522 : H 17 1 = 6 := (hW.2 17 _ (hW.1.2.2 1 (by decide))).2.2 1 (by decide) |> fun z => by have z1 : (6 : Int) ≤ H 17 1 ∧ H 17 1 ≤ 6 := z; omega
      refine wp_of e17 c17_10 (rw_getI (pc' := 13) (n := 2) (e := _) (lf_1_58).choose_spec.1 (lf_1_58).choose_spec.2.1 (hW.sh (hW.1.2.2 1 (by decide)) rfl) (by decide) rfl rfl ?_)
      rw [k237522]
      refine wp_of e17 c17_13 (rw_if_ne (p1 := 22) (p2 := 16) (by decide) rfl ⟨by omega, by omega⟩ (fun c237523 => ?_) (fun c237523 => ?_))
      · refine wp_of e17 c17_22 (rw_aload_n (pc' := 23) (v := .ref r1) rfl rfl rfl ?_)
        refine wp_of e17 c17_23 (rw_aload_n (pc' := 24) (v := .ref 17) rfl rfl rfl ?_)
        refine wp_of e17 c17_24 (xc_V (pc' := 27) (r := r1) (as := [.ref 17]) (st := []) (lm_1_63) rfl rfl (Nat.le_of_ble_eq_true rfl) hW g1 sh_27 (by decide) rfl (by decide) (u_21_17  hW g1) (fun R237524 T237525 H237526 p237527 => ?_))
        obtain ⟨e237528, e237530, z237531, e237529, b237532, p237533⟩ := p237527
        subst e237528
        subst e237529
        subst e237530
        obtain ⟨a237534, a237535⟩ := p237533
        show wp _ _ 17 27 [(2, .ref 17), (0, .ref r0), (1, .ref r1)] [vI z237531] _ H _
        refine wp_of e17 c17_27 (rw_aload_n (pc' := 28) (v := .ref 17) rfl rfl rfl ?_)
        have k237536 : H 17 1 = 6 := (hW.2 17 _ (hW.1.2.2 1 (by decide))).2.2 1 (by decide) |> fun z => by have z1 : (6 : Int) ≤ H 17 1 ∧ H 17 1 ≤ 6 := z; omega
        refine wp_of e17 c17_28 (rw_getI (pc' := 31) (n := 2) (e := _) (lf_1_58).choose_spec.1 (lf_1_58).choose_spec.2.1 (hW.sh (hW.1.2.2 1 (by decide)) rfl) (by decide) rfl rfl ?_)
        rw [k237536]
        refine wp_of e17 c17_31 (rw_icmp_lt (p1 := 68) (p2 := 34) (by decide) rfl ⟨by omega, by omega⟩ ⟨by omega, by omega⟩ (fun c237537 => ?_) (fun c237537 => ?_))
        · refine wp_of e17 c17_68 (rw_aload_n (pc' := 69) (v := .ref r0) rfl rfl rfl ?_)
          refine wp_of e17 c17_69 (xg_K (pc' := 72) lf_1_12 hW g0 sh_3 (by decide) (by decide) rfl qtk rfl ?_)
          have h237538 : TP T H rb B := TC_tp hTC_tk qrb
          refine wp_of e17 c17_72 (xc_V (pc' := 75) (r := tk) (as := []) (st := []) (lm_1_74) rfl rfl (Nat.le_of_ble_eq_true rfl) hW gtk sh_4 (by decide) rfl (by decide) (u_16 (B := B) (n := n) (a := (xE B n q)) (q := (xN B n q)) hW gtk qrb grb (by omega) (by omega) (by omega) (rfl) h237538) (fun R237539 T237540 H237541 p237542 => ?_))
          obtain ⟨e237543, w237545, f237546, e237544, p237547⟩ := p237542
          subst e237543
          subst e237544
          have f237549 := f0.tr f237546 rfl
          show wp _ _ 17 75 [(2, .ref 17), (0, .ref r0), (1, .ref r1)] [] _ H237541 _
          have u237550 := TC_k p237547
          refine wp_of e17 c17_75 (rw_gs (pc' := 78) (k := 2) rfl rfl rfl rfl ?_)
          refine wp_of e17 c17_78 (rw_aload_n (pc' := 79) (v := .ref 17) rfl rfl rfl ?_)
          refine wp_of e17 c17_79 (rw_ord (pc' := 82) rfl rfl rfl (by decide) (Nat.le_of_ble_eq_true rfl) rfl ?_)
          show wp _ _ 17 82 [(2, .ref 17), (0, .ref r0), (1, .ref r1)] [vI 1, .ref 2] _ H237541 _
          have k237551 : H237541 2 (1 : Int).toNat = 2 := (w237545.2 2 _ w237545.1.2.1).2.2 1 (by decide) |> fun z => by have z1 : (2 : Int) ≤ H237541 2 1 ∧ H237541 2 1 ≤ 2 := z; exact Int.le_antisymm z1.2 z1.1
          refine wp_of e17 c17_82 (rw_iaload (pc' := 83) (n := 11) (w237545.sh w237545.1.2.1 rfl) (by decide) (by decide) (by decide) rfl rfl ?_)
          rw [k237551]
          refine wp_of e17 c17_83 (rw_tsw (p1 := 134) ⟨by omega, by omega⟩ (by decide) ?_)
          refine wp_of e17 c17_134 (rw_aload_n (pc' := 135) (v := .ref r0) rfl rfl rfl ?_)
          refine wp_of e17 c17_135 (rw_aload_n (pc' := 136) (v := .ref r1) rfl rfl rfl ?_)
          have k237553 : H237541 r0 0 = H r0 0 := (f237546 r0 0 _ g0 rfl)
          have q237554 : H237541 r0 0 = (tk : Int) := k237553.trans qtk
          have k237555 : H237541 tk 0 = H tk 0 := (f237546 tk 0 _ gtk rfl)
          have q237556 : H237541 tk 0 = (rb : Int) := k237555.trans qrb
          have h237557 : DC T H237541 r1 d := (DC_fr hW g1 f237546 rfl hDC_r1)
          have h237558 : DD T H237541 r1  := (DD_fr hW g1 f237546 rfl hDD_r1)
          refine wp_of e17 c17_136 (xc_V (pc' := 139) (r := r0) (as := [.ref r1]) (st := []) (lm_1_90) rfl rfl (Nat.le_of_ble_eq_true rfl) w237545 g0 sh_3 (by decide) rfl (by decide) (u_25 (B := B) (n := n) (q := ((xN B n q))) (d := d) w237545 g0 g1 q237554 gtk q237556 grb (by omega) p237547 h237557 h237558) (fun R237559 T237560 H237561 p237562 => ?_))
          obtain ⟨e237563, w237565, f237566, z237567, e237564, b237568, p237569⟩ := p237562
          subst e237563
          subst e237564
          rcases p237569 with ⟨a237570, a237571, a237572, a237573, a237574, a237575, a237576⟩ | ⟨a237577, a237578, a237579, a237580, a237581⟩
          · have f237582 := f237549.tr f237566 rfl
            show wp _ _ 17 139 [(2, .ref 17), (0, .ref r0), (1, .ref r1)] [vI z237567] _ H237561 _
            have u237583 := TC_k a237574
            have u237584 := DC_k a237575
            refine wp_of e17 c17_139 (rw_if_eq (p1 := 154) (p2 := 142) (by decide) rfl ⟨by omega, by omega⟩ (fun c237585 => ?_) (fun c237585 => ?_))
            · exfalso
              omega
            · refine wp_of e17 c17_142 (rw_aload_n (pc' := 143) (v := .ref r0) rfl rfl rfl ?_)
              refine wp_of e17 c17_143 (rw_aload_n (pc' := 144) (v := .ref r1) rfl rfl rfl ?_)
              have k237586 : H237561 r0 0 = H237541 r0 0 := (f237566 r0 0 _ g0 rfl)
              have q237587 : H237561 r0 0 = (tk : Int) := k237586.trans q237554
              have k237588 : H237561 tk 0 = H237541 tk 0 := (f237566 tk 0 _ gtk rfl)
              have q237589 : H237561 tk 0 = (rb : Int) := k237588.trans q237556
              have h237590 : DD T H237561 r1  := (DD_fr w237545 g1 f237566 rfl h237558)
              refine wp_of e17 c17_144 (xc_V (pc' := 147) (r := r0) (as := [.ref r1]) (st := []) (lm_1_93) rfl rfl (Nat.le_of_ble_eq_true rfl) w237565 g0 sh_3 (by decide) rfl (by decide) (u_30 (B := B) (n := n) (q := ((xN B n (xN B n (xN B n (xN B n (xN B n (xN B n (xN B n (xN B n (xN B n ((xN B n q))))))))))))) (d := d) (y := ((xN B n q))) w237565 g0 g1 q237587 gtk q237589 grb (by omega) (by omega) a237574 a237575 h237590 a237576) (fun R237591 T237592 H237593 p237594 => ?_))
              obtain ⟨e237595, w237597, f237598, z237599, e237596, b237600, p237601⟩ := p237594
              subst e237595
              subst e237596
              rcases p237601 with ⟨a237602, a237603, a237604, a237605, a237606⟩ | ⟨a237607, a237608, a237609, a237610, a237611⟩
              · have f237612 := f237582.tr f237598 rfl
                show wp _ _ 17 147 [(2, .ref 17), (0, .ref r0), (1, .ref r1)] [vI z237599] _ H237593 _
                have u237613 := TC_k a237605
                have u237614 := DC_k a237606
                refine wp_of e17 c17_147 (rw_if_eq (p1 := 154) (p2 := 150) (by decide) rfl ⟨by omega, by omega⟩ (fun c237615 => ?_) (fun c237615 => ?_))
                · exfalso
                  omega
                · refine wp_of e17 c17_150 (rw_iconst (pc' := 151) rfl ?_)
                  refine wp_of e17 c17_151 (rw_goto (p1 := 155) (by decide) ?_)
                  have o237616 : (xline B n q d) = ((xcs B n ((xN B n (xN B n (xN B n (xN B n (xN B n (xN B n (xN B n (xN B n (xN B n ((xN B n q))))))))))))).1, (xcs B n ((xN B n (xN B n (xN B n (xN B n (xN B n (xN B n (xN B n (xN B n (xN B n ((xN B n q))))))))))))).2.1, (xcs B n ((xN B n (xN B n (xN B n (xN B n (xN B n (xN B n (xN B n (xN B n (xN B n ((xN B n q))))))))))))).2.2) := by
                    unfold xline xl0 xl1 xl2 xl3 xl4 xl5 xl6 xl7 xper
                    repeat first | rw [xs_0 (by omega)] | rw [xs_1 (by omega)] | rw [if_pos (by omega)] | rw [if_neg (by omega)]
                    first | done | rfl | assumption | (exfalso; omega) | (refine Prod.ext ?_ (Prod.ext ?_ ?_) <;> (try dsimp only) <;> omega)
                  have o237616a : ((xline B n q d)).1 = (xcs B n ((xN B n (xN B n (xN B n (xN B n (xN B n (xN B n (xN B n (xN B n (xN B n ((xN B n q))))))))))))).1 := by rw [o237616]
                  have o237616b : ((xline B n q d)).2.1 = (xcs B n ((xN B n (xN B n (xN B n (xN B n (xN B n (xN B n (xN B n (xN B n (xN B n ((xN B n q))))))))))))).2.1 := by rw [o237616]
                  have o237616c : ((xline B n q d)).2.2 = (xcs B n ((xN B n (xN B n (xN B n (xN B n (xN B n (xN B n (xN B n (xN B n (xN B n ((xN B n q))))))))))))).2.2 := by rw [o237616]
                  have o237617 : xdline B n q d = (xdper B n ((xN B n q)) d) := by
                    unfold xdline
                    repeat first | rw [xs_0 (by omega)] | rw [xs_1 (by omega)] | rw [if_pos (by omega)] | rw [if_neg (by omega)]
                    first | done | rfl
                  exact wp_zreturn e17 c17_155 rfl (by omega) ⟨rfl, w237597, f237612, 1, rfl, ⟨by omega, by omega⟩, (Or.inl ⟨by omega, by omega, by omega, by rw [o237616]; exact a237605, by rw [o237617]; exact a237606⟩)⟩
              · have f237618 := f237582.tr f237598 rfl
                show wp _ _ 17 147 [(2, .ref 17), (0, .ref r0), (1, .ref r1)] [vI z237599] _ H237593 _
                refine wp_of e17 c17_147 (rw_if_eq (p1 := 154) (p2 := 150) (by decide) rfl ⟨by omega, by omega⟩ (fun c237619 => ?_) (fun c237619 => ?_))
                · refine wp_of e17 c17_154 (rw_iconst (pc' := 155) rfl ?_)
                  have o237620 : (xline B n q d) = ((xcs B n ((xN B n (xN B n (xN B n (xN B n (xN B n (xN B n (xN B n (xN B n (xN B n ((xN B n q))))))))))))).1, (xcs B n ((xN B n (xN B n (xN B n (xN B n (xN B n (xN B n (xN B n (xN B n (xN B n ((xN B n q))))))))))))).2.1, (xcs B n ((xN B n (xN B n (xN B n (xN B n (xN B n (xN B n (xN B n (xN B n (xN B n ((xN B n q))))))))))))).2.2) := by
                    unfold xline xl0 xl1 xl2 xl3 xl4 xl5 xl6 xl7 xper
                    repeat first | rw [xs_0 (by omega)] | rw [xs_1 (by omega)] | rw [if_pos (by omega)] | rw [if_neg (by omega)]
                    first | done | rfl | assumption | (exfalso; omega) | (refine Prod.ext ?_ (Prod.ext ?_ ?_) <;> (try dsimp only) <;> omega)
                  have o237620a : ((xline B n q d)).1 = (xcs B n ((xN B n (xN B n (xN B n (xN B n (xN B n (xN B n (xN B n (xN B n (xN B n ((xN B n q))))))))))))).1 := by rw [o237620]
                  have o237620b : ((xline B n q d)).2.1 = (xcs B n ((xN B n (xN B n (xN B n (xN B n (xN B n (xN B n (xN B n (xN B n (xN B n ((xN B n q))))))))))))).2.1 := by rw [o237620]
                  have o237620c : ((xline B n q d)).2.2 = (xcs B n ((xN B n (xN B n (xN B n (xN B n (xN B n (xN B n (xN B n (xN B n (xN B n ((xN B n q))))))))))))).2.2 := by rw [o237620]
                  exact wp_zreturn e17 c17_155 rfl (by omega) ⟨rfl, w237597, f237618, 0, rfl, ⟨by omega, by omega⟩, (Or.inr ⟨by omega, by omega, by omega, by omega, by omega⟩)⟩
                · exfalso
                  omega
          · have f237621 := f237549.tr f237566 rfl
            show wp _ _ 17 139 [(2, .ref 17), (0, .ref r0), (1, .ref r1)] [vI z237567] _ H237561 _
            refine wp_of e17 c17_139 (rw_if_eq (p1 := 154) (p2 := 142) (by decide) rfl ⟨by omega, by omega⟩ (fun c237622 => ?_) (fun c237622 => ?_))
            · refine wp_of e17 c17_154 (rw_iconst (pc' := 155) rfl ?_)
              have o237623 : (xline B n q d) = ((xbd B n ((xN B n q)) d).1, (xbd B n ((xN B n q)) d).2.1, (xbd B n ((xN B n q)) d).2.2) := by
                unfold xline xl0 xl1 xl2 xl3 xl4 xl5 xl6 xl7 xper
                repeat first | rw [xs_0 (by omega)] | rw [xs_1 (by omega)] | rw [if_pos (by omega)] | rw [if_neg (by omega)]
                first | done | rfl | assumption | (exfalso; omega) | (refine Prod.ext ?_ (Prod.ext ?_ ?_) <;> (try dsimp only) <;> omega)
              have o237623a : ((xline B n q d)).1 = (xbd B n ((xN B n q)) d).1 := by rw [o237623]
              have o237623b : ((xline B n q d)).2.1 = (xbd B n ((xN B n q)) d).2.1 := by rw [o237623]
              have o237623c : ((xline B n q d)).2.2 = (xbd B n ((xN B n q)) d).2.2 := by rw [o237623]
              exact wp_zreturn e17 c17_155 rfl (by omega) ⟨rfl, w237565, f237621, 0, rfl, ⟨by omega, by omega⟩, (Or.inr ⟨by omega, by omega, by omega, by omega, by omega⟩)⟩
            · exfalso
              omega
        · refine wp_of e17 c17_34 (rw_aload_n (pc' := 35) (v := .ref 17) rfl rfl rfl ?_)
          refine wp_of e17 c17_35 (rw_gs (pc' := 38) (k := 16) rfl rfl rfl rfl ?_)
          refine wp_of e17 c17_38 (rw_acmp_eq (p1 := 48) (p2 := 41) (a := some 17) (b := some 16) rfl rfl (by decide) rfl (fun q9 => absurd q9 (by decide)) (fun q9 => ?_))
          refine wp_of e17 c17_41 (rw_aload_n (pc' := 42) (v := .ref 17) rfl rfl rfl ?_)
          refine wp_of e17 c17_42 (rw_gs (pc' := 45) (k := 18) rfl rfl rfl rfl ?_)
          refine wp_of e17 c17_45 (rw_acmp_ne (p1 := 52) (p2 := 48) (a := some 17) (b := some 18) rfl rfl (by decide) rfl (fun q9 => ?_) (fun q9 => absurd q9 (by decide)))
          refine wp_of e17 c17_52 (rw_iconst (pc' := 53) rfl ?_)
          refine wp_of e17 c17_53 (rw_istore_n (pc' := 54) (z := 0) (L' := [(3, vI 0), (2, .ref 17), (0, .ref r0), (1, .ref r1)]) rfl rfl rfl ?_)
          refine wp_of e17 c17_54 (rw_aload_n (pc' := 55) (v := .ref r0) rfl rfl rfl ?_)
          refine wp_of e17 c17_55 (rw_iload_n (pc' := 56) (z := 0) rfl rfl ?_)
          refine wp_of e17 c17_56 (rw_if_eq (p1 := 63) (p2 := 59) (by decide) rfl ⟨by omega, by omega⟩ (fun c237624 => ?_) (fun c237624 => ?_))
          · refine wp_of e17 c17_63 (rw_iconst (pc' := 64) rfl ?_)
            refine wp_of e17 c17_64 (xc_V (pc' := 67) (r := r0) (as := [vI 5]) (st := []) (lm_1_47) rfl rfl (Nat.le_of_ble_eq_true rfl) hW g0 sh_3 (by decide) rfl (by decide) (u_20  hW g0 ⟨by omega, by omega⟩ qtk gtk) (fun R237625 T237626 H237627 p237628 => ?_))
            obtain ⟨e237629, w237631, f237632, z237633, e237630, b237634, p237635⟩ := p237628
            subst e237629
            subst e237630
            obtain ⟨a237636, a237637, a237638⟩ := p237635
            have f237639 := f0.tr f237632 rfl
            show wp _ _ 17 67 [(3, vI 0), (2, .ref 17), (0, .ref r0), (1, .ref r1)] [vI z237633] _ H237627 _
            have o237640 : (xline B n q d) = (5, q, q) := by
              unfold xline xl0 xl1 xl2 xl3 xl4 xl5 xl6 xl7 xper
              repeat first | rw [xs_0 (by omega)] | rw [xs_1 (by omega)] | rw [if_pos (by omega)] | rw [if_neg (by omega)]
              first | done | rfl | assumption | (exfalso; omega) | (refine Prod.ext ?_ (Prod.ext ?_ ?_) <;> (try dsimp only) <;> omega)
            have o237640a : ((xline B n q d)).1 = 5 := by rw [o237640]
            have o237640b : ((xline B n q d)).2.1 = q := by rw [o237640]
            have o237640c : ((xline B n q d)).2.2 = q := by rw [o237640]
            exact wp_zreturn e17 c17_67 rfl (by omega) ⟨rfl, w237631, f237639, z237633, rfl, ⟨by omega, by omega⟩, (Or.inr ⟨by omega, by omega, by omega, by omega, by omega⟩)⟩
          · exfalso
            omega
      · exfalso
        omega
    · subst c237435
      show wp _ _ 17 4 [(0, .ref r0), (1, .ref r1)] [.ref 18] _ H _
      refine wp_of e17 c17_4 (rw_astore_n (pc' := 5) (v := .ref 18) (L' := [(2, .ref 18), (0, .ref r0), (1, .ref r1)]) rfl rfl rfl rfl ?_)
      refine wp_of e17 c17_5 (rw_aload_n (pc' := 6) (v := .ref 18) rfl rfl rfl ?_)
      refine wp_of e17 c17_6 (rw_ifnull_r (p1 := 16) (p2 := 9) (by decide) rfl ?_)
      refine wp_of e17 c17_9 (rw_aload_n (pc' := 10) (v := .ref 18) rfl rfl rfl ?_)
      have k237641 : H 18 1 = 1 := (hW.2 18 _ (hW.1.2.2 2 (by decide))).2.2 1 (by decide) |> fun z => by have z1 : (1 : Int) ≤ H 18 1 ∧ H 18 1 ≤ 1 := z; omega
      refine wp_of e17 c17_10 (rw_getI (pc' := 13) (n := 2) (e := _) (lf_1_58).choose_spec.1 (lf_1_58).choose_spec.2.1 (hW.sh (hW.1.2.2 2 (by decide)) rfl) (by decide) rfl rfl ?_)
      rw [k237641]
      refine wp_of e17 c17_13 (rw_if_ne (p1 := 22) (p2 := 16) (by decide) rfl ⟨by omega, by omega⟩ (fun c237642 => ?_) (fun c237642 => ?_))
      · refine wp_of e17 c17_22 (rw_aload_n (pc' := 23) (v := .ref r1) rfl rfl rfl ?_)
        refine wp_of e17 c17_23 (rw_aload_n (pc' := 24) (v := .ref 18) rfl rfl rfl ?_)
        refine wp_of e17 c17_24 (xc_V (pc' := 27) (r := r1) (as := [.ref 18]) (st := []) (lm_1_63) rfl rfl (Nat.le_of_ble_eq_true rfl) hW g1 sh_27 (by decide) rfl (by decide) (u_21_18  hW g1) (fun R237643 T237644 H237645 p237646 => ?_))
        obtain ⟨e237647, e237649, z237650, e237648, b237651, p237652⟩ := p237646
        subst e237647
        subst e237648
        subst e237649
        rcases p237652 with ⟨a237653, a237654⟩ | ⟨a237655, a237656⟩
        · show wp _ _ 17 27 [(2, .ref 18), (0, .ref r0), (1, .ref r1)] [vI z237650] _ H _
          refine wp_of e17 c17_27 (rw_aload_n (pc' := 28) (v := .ref 18) rfl rfl rfl ?_)
          have k237657 : H 18 1 = 1 := (hW.2 18 _ (hW.1.2.2 2 (by decide))).2.2 1 (by decide) |> fun z => by have z1 : (1 : Int) ≤ H 18 1 ∧ H 18 1 ≤ 1 := z; omega
          refine wp_of e17 c17_28 (rw_getI (pc' := 31) (n := 2) (e := _) (lf_1_58).choose_spec.1 (lf_1_58).choose_spec.2.1 (hW.sh (hW.1.2.2 2 (by decide)) rfl) (by decide) rfl rfl ?_)
          rw [k237657]
          refine wp_of e17 c17_31 (rw_icmp_lt (p1 := 68) (p2 := 34) (by decide) rfl ⟨by omega, by omega⟩ ⟨by omega, by omega⟩ (fun c237658 => ?_) (fun c237658 => ?_))
          · exfalso
            omega
          · refine wp_of e17 c17_34 (rw_aload_n (pc' := 35) (v := .ref 18) rfl rfl rfl ?_)
            refine wp_of e17 c17_35 (rw_gs (pc' := 38) (k := 16) rfl rfl rfl rfl ?_)
            refine wp_of e17 c17_38 (rw_acmp_eq (p1 := 48) (p2 := 41) (a := some 18) (b := some 16) rfl rfl (by decide) rfl (fun q9 => absurd q9 (by decide)) (fun q9 => ?_))
            refine wp_of e17 c17_41 (rw_aload_n (pc' := 42) (v := .ref 18) rfl rfl rfl ?_)
            refine wp_of e17 c17_42 (rw_gs (pc' := 45) (k := 18) rfl rfl rfl rfl ?_)
            refine wp_of e17 c17_45 (rw_acmp_ne (p1 := 52) (p2 := 48) (a := some 18) (b := some 18) rfl rfl (by decide) rfl (fun q9 => absurd q9 (by decide)) (fun q9 => ?_))
            refine wp_of e17 c17_48 (rw_iconst (pc' := 49) rfl ?_)
            refine wp_of e17 c17_49 (rw_goto (p1 := 53) (by decide) ?_)
            refine wp_of e17 c17_53 (rw_istore_n (pc' := 54) (z := 1) (L' := [(3, vI 1), (2, .ref 18), (0, .ref r0), (1, .ref r1)]) rfl rfl rfl ?_)
            refine wp_of e17 c17_54 (rw_aload_n (pc' := 55) (v := .ref r0) rfl rfl rfl ?_)
            refine wp_of e17 c17_55 (rw_iload_n (pc' := 56) (z := 1) rfl rfl ?_)
            refine wp_of e17 c17_56 (rw_if_eq (p1 := 63) (p2 := 59) (by decide) rfl ⟨by omega, by omega⟩ (fun c237659 => ?_) (fun c237659 => ?_))
            · exfalso
              omega
            · refine wp_of e17 c17_59 (rw_iconst (pc' := 60) rfl ?_)
              refine wp_of e17 c17_60 (rw_goto (p1 := 64) (by decide) ?_)
              refine wp_of e17 c17_64 (xc_V (pc' := 67) (r := r0) (as := [vI 3]) (st := []) (lm_1_47) rfl rfl (Nat.le_of_ble_eq_true rfl) hW g0 sh_3 (by decide) rfl (by decide) (u_20  hW g0 ⟨by omega, by omega⟩ qtk gtk) (fun R237660 T237661 H237662 p237663 => ?_))
              obtain ⟨e237664, w237666, f237667, z237668, e237665, b237669, p237670⟩ := p237663
              subst e237664
              subst e237665
              obtain ⟨a237671, a237672, a237673⟩ := p237670
              have f237674 := f0.tr f237667 rfl
              show wp _ _ 17 67 [(3, vI 1), (2, .ref 18), (0, .ref r0), (1, .ref r1)] [vI z237668] _ H237662 _
              have o237675 : (xline B n q d) = (3, q, q) := by
                unfold xline xl0 xl1 xl2 xl3 xl4 xl5 xl6 xl7 xper
                repeat first | rw [xs_0 (by omega)] | rw [xs_1 (by omega)] | rw [if_pos (by omega)] | rw [if_neg (by omega)]
                first | done | rfl | assumption | (exfalso; omega) | (refine Prod.ext ?_ (Prod.ext ?_ ?_) <;> (try dsimp only) <;> omega)
              have o237675a : ((xline B n q d)).1 = 3 := by rw [o237675]
              have o237675b : ((xline B n q d)).2.1 = q := by rw [o237675]
              have o237675c : ((xline B n q d)).2.2 = q := by rw [o237675]
              exact wp_zreturn e17 c17_67 rfl (by omega) ⟨rfl, w237666, f237674, z237668, rfl, ⟨by omega, by omega⟩, (Or.inr ⟨by omega, by omega, by omega, by omega, by omega⟩)⟩
        · show wp _ _ 17 27 [(2, .ref 18), (0, .ref r0), (1, .ref r1)] [vI z237650] _ H _
          refine wp_of e17 c17_27 (rw_aload_n (pc' := 28) (v := .ref 18) rfl rfl rfl ?_)
          have k237676 : H 18 1 = 1 := (hW.2 18 _ (hW.1.2.2 2 (by decide))).2.2 1 (by decide) |> fun z => by have z1 : (1 : Int) ≤ H 18 1 ∧ H 18 1 ≤ 1 := z; omega
          refine wp_of e17 c17_28 (rw_getI (pc' := 31) (n := 2) (e := _) (lf_1_58).choose_spec.1 (lf_1_58).choose_spec.2.1 (hW.sh (hW.1.2.2 2 (by decide)) rfl) (by decide) rfl rfl ?_)
          rw [k237676]
          refine wp_of e17 c17_31 (rw_icmp_lt (p1 := 68) (p2 := 34) (by decide) rfl ⟨by omega, by omega⟩ ⟨by omega, by omega⟩ (fun c237677 => ?_) (fun c237677 => ?_))
          · refine wp_of e17 c17_68 (rw_aload_n (pc' := 69) (v := .ref r0) rfl rfl rfl ?_)
            refine wp_of e17 c17_69 (xg_K (pc' := 72) lf_1_12 hW g0 sh_3 (by decide) (by decide) rfl qtk rfl ?_)
            have h237678 : TP T H rb B := TC_tp hTC_tk qrb
            refine wp_of e17 c17_72 (xc_V (pc' := 75) (r := tk) (as := []) (st := []) (lm_1_74) rfl rfl (Nat.le_of_ble_eq_true rfl) hW gtk sh_4 (by decide) rfl (by decide) (u_16 (B := B) (n := n) (a := (xE B n q)) (q := (xN B n q)) hW gtk qrb grb (by omega) (by omega) (by omega) (rfl) h237678) (fun R237679 T237680 H237681 p237682 => ?_))
            obtain ⟨e237683, w237685, f237686, e237684, p237687⟩ := p237682
            subst e237683
            subst e237684
            have f237689 := f0.tr f237686 rfl
            show wp _ _ 17 75 [(2, .ref 18), (0, .ref r0), (1, .ref r1)] [] _ H237681 _
            have u237690 := TC_k p237687
            refine wp_of e17 c17_75 (rw_gs (pc' := 78) (k := 2) rfl rfl rfl rfl ?_)
            refine wp_of e17 c17_78 (rw_aload_n (pc' := 79) (v := .ref 18) rfl rfl rfl ?_)
            refine wp_of e17 c17_79 (rw_ord (pc' := 82) rfl rfl rfl (by decide) (Nat.le_of_ble_eq_true rfl) rfl ?_)
            show wp _ _ 17 82 [(2, .ref 18), (0, .ref r0), (1, .ref r1)] [vI 2, .ref 2] _ H237681 _
            have k237691 : H237681 2 (2 : Int).toNat = 3 := (w237685.2 2 _ w237685.1.2.1).2.2 2 (by decide) |> fun z => by have z1 : (3 : Int) ≤ H237681 2 2 ∧ H237681 2 2 ≤ 3 := z; exact Int.le_antisymm z1.2 z1.1
            refine wp_of e17 c17_82 (rw_iaload (pc' := 83) (n := 11) (w237685.sh w237685.1.2.1 rfl) (by decide) (by decide) (by decide) rfl rfl ?_)
            rw [k237691]
            refine wp_of e17 c17_83 (rw_tsw (p1 := 156) ⟨by omega, by omega⟩ (by decide) ?_)
            refine wp_of e17 c17_156 (rw_aload_n (pc' := 157) (v := .ref r0) rfl rfl rfl ?_)
            refine wp_of e17 c17_157 (rw_aload_n (pc' := 158) (v := .ref r1) rfl rfl rfl ?_)
            have k237693 : H237681 r0 0 = H r0 0 := (f237686 r0 0 _ g0 rfl)
            have q237694 : H237681 r0 0 = (tk : Int) := k237693.trans qtk
            have k237695 : H237681 tk 0 = H tk 0 := (f237686 tk 0 _ gtk rfl)
            have q237696 : H237681 tk 0 = (rb : Int) := k237695.trans qrb
            have h237697 : DC T H237681 r1 d := (DC_fr hW g1 f237686 rfl hDC_r1)
            refine wp_of e17 c17_158 (xc_V (pc' := 161) (r := r0) (as := [.ref r1]) (st := []) (lm_1_96) rfl rfl (Nat.le_of_ble_eq_true rfl) w237685 g0 sh_3 (by decide) rfl (by decide) (u_32 (B := B) (n := n) (q := ((xN B n q))) (d := d) w237685 g0 g1 q237694 gtk q237696 grb p237687 h237697) (fun R237698 T237699 H237700 p237701 => ?_))
            obtain ⟨e237702, w237704, f237705, z237706, e237703, b237707, p237708⟩ := p237701
            subst e237702
            subst e237703
            rcases p237708 with ⟨a237709, a237710, a237711, a237712, a237713, a237714⟩ | ⟨a237715, a237716, a237717, a237718, a237719⟩
            · have f237720 := f237689.tr f237705 rfl
              show wp _ _ 17 161 [(2, .ref 18), (0, .ref r0), (1, .ref r1)] [vI z237706] _ H237700 _
              have u237721 := TC_k a237713
              have u237722 := DC_k a237714
              have o237723 : (xline B n q d) = (0, ((xN B n q)), (xN B n ((xN B n q)))) := by
                unfold xline xl0 xl1 xl2 xl3 xl4 xl5 xl6 xl7 xper
                repeat first | rw [xs_0 (by omega)] | rw [xs_1 (by omega)] | rw [if_pos (by omega)] | rw [if_neg (by omega)]
                first | done | rfl | assumption | (exfalso; omega) | (refine Prod.ext ?_ (Prod.ext ?_ ?_) <;> (try dsimp only) <;> omega)
              have o237723a : ((xline B n q d)).1 = 0 := by rw [o237723]
              have o237723b : ((xline B n q d)).2.1 = ((xN B n q)) := by rw [o237723]
              have o237723c : ((xline B n q d)).2.2 = (xN B n ((xN B n q))) := by rw [o237723]
              have o237724 : xdline B n q d = ((xdsex B n ((xN B n q)) d)) := by
                unfold xdline
                repeat first | rw [xs_0 (by omega)] | rw [xs_1 (by omega)] | rw [if_pos (by omega)] | rw [if_neg (by omega)]
                first | done | rfl
              exact wp_zreturn e17 c17_161 rfl (by omega) ⟨rfl, w237704, f237720, z237706, rfl, ⟨by omega, by omega⟩, (Or.inl ⟨by omega, by omega, by omega, by rw [o237723]; exact a237713, by rw [o237724]; exact a237714⟩)⟩
            · have f237725 := f237689.tr f237705 rfl
              show wp _ _ 17 161 [(2, .ref 18), (0, .ref r0), (1, .ref r1)] [vI z237706] _ H237700 _
              have o237726 : (xline B n q d) = ((xsex B n ((xN B n q)) d).1, (xsex B n ((xN B n q)) d).2.1, (xsex B n ((xN B n q)) d).2.2) := by
                unfold xline xl0 xl1 xl2 xl3 xl4 xl5 xl6 xl7 xper
                repeat first | rw [xs_0 (by omega)] | rw [xs_1 (by omega)] | rw [if_pos (by omega)] | rw [if_neg (by omega)]
                first | done | rfl | assumption | (exfalso; omega) | (refine Prod.ext ?_ (Prod.ext ?_ ?_) <;> (try dsimp only) <;> omega)
              have o237726a : ((xline B n q d)).1 = (xsex B n ((xN B n q)) d).1 := by rw [o237726]
              have o237726b : ((xline B n q d)).2.1 = (xsex B n ((xN B n q)) d).2.1 := by rw [o237726]
              have o237726c : ((xline B n q d)).2.2 = (xsex B n ((xN B n q)) d).2.2 := by rw [o237726]
              exact wp_zreturn e17 c17_161 rfl (by omega) ⟨rfl, w237704, f237725, z237706, rfl, ⟨by omega, by omega⟩, (Or.inr ⟨by omega, by omega, by omega, by omega, by omega⟩)⟩
          · exfalso
            omega
      · exfalso
        omega
    · subst c237435
      show wp _ _ 17 4 [(0, .ref r0), (1, .ref r1)] [.ref 19] _ H _
      refine wp_of e17 c17_4 (rw_astore_n (pc' := 5) (v := .ref 19) (L' := [(2, .ref 19), (0, .ref r0), (1, .ref r1)]) rfl rfl rfl rfl ?_)
      refine wp_of e17 c17_5 (rw_aload_n (pc' := 6) (v := .ref 19) rfl rfl rfl ?_)
      refine wp_of e17 c17_6 (rw_ifnull_r (p1 := 16) (p2 := 9) (by decide) rfl ?_)
      refine wp_of e17 c17_9 (rw_aload_n (pc' := 10) (v := .ref 19) rfl rfl rfl ?_)
      have k237727 : H 19 1 = 3 := (hW.2 19 _ (hW.1.2.2 3 (by decide))).2.2 1 (by decide) |> fun z => by have z1 : (3 : Int) ≤ H 19 1 ∧ H 19 1 ≤ 3 := z; omega
      refine wp_of e17 c17_10 (rw_getI (pc' := 13) (n := 2) (e := _) (lf_1_58).choose_spec.1 (lf_1_58).choose_spec.2.1 (hW.sh (hW.1.2.2 3 (by decide)) rfl) (by decide) rfl rfl ?_)
      rw [k237727]
      refine wp_of e17 c17_13 (rw_if_ne (p1 := 22) (p2 := 16) (by decide) rfl ⟨by omega, by omega⟩ (fun c237728 => ?_) (fun c237728 => ?_))
      · refine wp_of e17 c17_22 (rw_aload_n (pc' := 23) (v := .ref r1) rfl rfl rfl ?_)
        refine wp_of e17 c17_23 (rw_aload_n (pc' := 24) (v := .ref 19) rfl rfl rfl ?_)
        refine wp_of e17 c17_24 (xc_V (pc' := 27) (r := r1) (as := [.ref 19]) (st := []) (lm_1_63) rfl rfl (Nat.le_of_ble_eq_true rfl) hW g1 sh_27 (by decide) rfl (by decide) (u_21_19  hW g1) (fun R237729 T237730 H237731 p237732 => ?_))
        obtain ⟨e237733, e237735, z237736, e237734, b237737, p237738⟩ := p237732
        subst e237733
        subst e237734
        subst e237735
        obtain ⟨a237739, a237740⟩ := p237738
        show wp _ _ 17 27 [(2, .ref 19), (0, .ref r0), (1, .ref r1)] [vI z237736] _ H _
        refine wp_of e17 c17_27 (rw_aload_n (pc' := 28) (v := .ref 19) rfl rfl rfl ?_)
        have k237741 : H 19 1 = 3 := (hW.2 19 _ (hW.1.2.2 3 (by decide))).2.2 1 (by decide) |> fun z => by have z1 : (3 : Int) ≤ H 19 1 ∧ H 19 1 ≤ 3 := z; omega
        refine wp_of e17 c17_28 (rw_getI (pc' := 31) (n := 2) (e := _) (lf_1_58).choose_spec.1 (lf_1_58).choose_spec.2.1 (hW.sh (hW.1.2.2 3 (by decide)) rfl) (by decide) rfl rfl ?_)
        rw [k237741]
        refine wp_of e17 c17_31 (rw_icmp_lt (p1 := 68) (p2 := 34) (by decide) rfl ⟨by omega, by omega⟩ ⟨by omega, by omega⟩ (fun c237742 => ?_) (fun c237742 => ?_))
        · refine wp_of e17 c17_68 (rw_aload_n (pc' := 69) (v := .ref r0) rfl rfl rfl ?_)
          refine wp_of e17 c17_69 (xg_K (pc' := 72) lf_1_12 hW g0 sh_3 (by decide) (by decide) rfl qtk rfl ?_)
          have h237743 : TP T H rb B := TC_tp hTC_tk qrb
          refine wp_of e17 c17_72 (xc_V (pc' := 75) (r := tk) (as := []) (st := []) (lm_1_74) rfl rfl (Nat.le_of_ble_eq_true rfl) hW gtk sh_4 (by decide) rfl (by decide) (u_16 (B := B) (n := n) (a := (xE B n q)) (q := (xN B n q)) hW gtk qrb grb (by omega) (by omega) (by omega) (rfl) h237743) (fun R237744 T237745 H237746 p237747 => ?_))
          obtain ⟨e237748, w237750, f237751, e237749, p237752⟩ := p237747
          subst e237748
          subst e237749
          have f237754 := f0.tr f237751 rfl
          show wp _ _ 17 75 [(2, .ref 19), (0, .ref r0), (1, .ref r1)] [] _ H237746 _
          have u237755 := TC_k p237752
          refine wp_of e17 c17_75 (rw_gs (pc' := 78) (k := 2) rfl rfl rfl rfl ?_)
          refine wp_of e17 c17_78 (rw_aload_n (pc' := 79) (v := .ref 19) rfl rfl rfl ?_)
          refine wp_of e17 c17_79 (rw_ord (pc' := 82) rfl rfl rfl (by decide) (Nat.le_of_ble_eq_true rfl) rfl ?_)
          show wp _ _ 17 82 [(2, .ref 19), (0, .ref r0), (1, .ref r1)] [vI 3, .ref 2] _ H237746 _
          have k237756 : H237746 2 (3 : Int).toNat = 4 := (w237750.2 2 _ w237750.1.2.1).2.2 3 (by decide) |> fun z => by have z1 : (4 : Int) ≤ H237746 2 3 ∧ H237746 2 3 ≤ 4 := z; exact Int.le_antisymm z1.2 z1.1
          refine wp_of e17 c17_82 (rw_iaload (pc' := 83) (n := 11) (w237750.sh w237750.1.2.1 rfl) (by decide) (by decide) (by decide) rfl rfl ?_)
          rw [k237756]
          refine wp_of e17 c17_83 (rw_tsw (p1 := 162) ⟨by omega, by omega⟩ (by decide) ?_)
          refine wp_of e17 c17_162 (rw_aload_n (pc' := 163) (v := .ref r0) rfl rfl rfl ?_)
          refine wp_of e17 c17_163 (rw_aload_n (pc' := 164) (v := .ref r1) rfl rfl rfl ?_)
          have k237758 : H237746 r0 0 = H r0 0 := (f237751 r0 0 _ g0 rfl)
          have q237759 : H237746 r0 0 = (tk : Int) := k237758.trans qtk
          have k237760 : H237746 tk 0 = H tk 0 := (f237751 tk 0 _ gtk rfl)
          have q237761 : H237746 tk 0 = (rb : Int) := k237760.trans qrb
          have h237762 : DC T H237746 r1 d := (DC_fr hW g1 f237751 rfl hDC_r1)
          have h237763 : DD T H237746 r1  := (DD_fr hW g1 f237751 rfl hDD_r1)
          refine wp_of e17 c17_164 (xc_V (pc' := 167) (r := r0) (as := [.ref r1]) (st := []) (lm_1_99) rfl rfl (Nat.le_of_ble_eq_true rfl) w237750 g0 sh_3 (by decide) rfl (by decide) (u_34 (B := B) (n := n) (q := ((xN B n q))) (d := d) w237750 g0 g1 q237759 gtk q237761 grb (by omega) p237752 h237762 h237763) (fun R237764 T237765 H237766 p237767 => ?_))
          obtain ⟨e237768, w237770, f237771, z237772, e237769, b237773, p237774⟩ := p237767
          subst e237768
          subst e237769
          rcases p237774 with ⟨a237775, a237776, a237777, a237778, a237779, a237780⟩ | ⟨a237781, a237782, a237783, a237784, a237785⟩
          · have f237786 := f237754.tr f237771 rfl
            show wp _ _ 17 167 [(2, .ref 19), (0, .ref r0), (1, .ref r1)] [vI z237772] _ H237766 _
            have u237787 := TC_k a237779
            have u237788 := DC_k a237780
            have o237789 : (xline B n q d) = (0, ((xN B n q)), (xN B n (xN B n (xN B n ((xN B n q)))))) := by
              unfold xline xl0 xl1 xl2 xl3 xl4 xl5 xl6 xl7 xper
              repeat first | rw [xs_0 (by omega)] | rw [xs_1 (by omega)] | rw [if_pos (by omega)] | rw [if_neg (by omega)]
              first | done | rfl | assumption | (exfalso; omega) | (refine Prod.ext ?_ (Prod.ext ?_ ?_) <;> (try dsimp only) <;> omega)
            have o237789a : ((xline B n q d)).1 = 0 := by rw [o237789]
            have o237789b : ((xline B n q d)).2.1 = ((xN B n q)) := by rw [o237789]
            have o237789c : ((xline B n q d)).2.2 = (xN B n (xN B n (xN B n ((xN B n q))))) := by rw [o237789]
            have o237790 : xdline B n q d = ((xdap B n ((xN B n q)) d)) := by
              unfold xdline
              repeat first | rw [xs_0 (by omega)] | rw [xs_1 (by omega)] | rw [if_pos (by omega)] | rw [if_neg (by omega)]
              first | done | rfl
            exact wp_zreturn e17 c17_167 rfl (by omega) ⟨rfl, w237770, f237786, z237772, rfl, ⟨by omega, by omega⟩, (Or.inl ⟨by omega, by omega, by omega, by rw [o237789]; exact a237779, by rw [o237790]; exact a237780⟩)⟩
          · have f237791 := f237754.tr f237771 rfl
            show wp _ _ 17 167 [(2, .ref 19), (0, .ref r0), (1, .ref r1)] [vI z237772] _ H237766 _
            have o237792 : (xline B n q d) = ((xap B n ((xN B n q)) d).1, (xap B n ((xN B n q)) d).2.1, (xap B n ((xN B n q)) d).2.2) := by
              unfold xline xl0 xl1 xl2 xl3 xl4 xl5 xl6 xl7 xper
              repeat first | rw [xs_0 (by omega)] | rw [xs_1 (by omega)] | rw [if_pos (by omega)] | rw [if_neg (by omega)]
              first | done | rfl | assumption | (exfalso; omega) | (refine Prod.ext ?_ (Prod.ext ?_ ?_) <;> (try dsimp only) <;> omega)
            have o237792a : ((xline B n q d)).1 = (xap B n ((xN B n q)) d).1 := by rw [o237792]
            have o237792b : ((xline B n q d)).2.1 = (xap B n ((xN B n q)) d).2.1 := by rw [o237792]
            have o237792c : ((xline B n q d)).2.2 = (xap B n ((xN B n q)) d).2.2 := by rw [o237792]
            exact wp_zreturn e17 c17_167 rfl (by omega) ⟨rfl, w237770, f237791, z237772, rfl, ⟨by omega, by omega⟩, (Or.inr ⟨by omega, by omega, by omega, by omega, by omega⟩)⟩
        · refine wp_of e17 c17_34 (rw_aload_n (pc' := 35) (v := .ref 19) rfl rfl rfl ?_)
          refine wp_of e17 c17_35 (rw_gs (pc' := 38) (k := 16) rfl rfl rfl rfl ?_)
          refine wp_of e17 c17_38 (rw_acmp_eq (p1 := 48) (p2 := 41) (a := some 19) (b := some 16) rfl rfl (by decide) rfl (fun q9 => absurd q9 (by decide)) (fun q9 => ?_))
          refine wp_of e17 c17_41 (rw_aload_n (pc' := 42) (v := .ref 19) rfl rfl rfl ?_)
          refine wp_of e17 c17_42 (rw_gs (pc' := 45) (k := 18) rfl rfl rfl rfl ?_)
          refine wp_of e17 c17_45 (rw_acmp_ne (p1 := 52) (p2 := 48) (a := some 19) (b := some 18) rfl rfl (by decide) rfl (fun q9 => ?_) (fun q9 => absurd q9 (by decide)))
          refine wp_of e17 c17_52 (rw_iconst (pc' := 53) rfl ?_)
          refine wp_of e17 c17_53 (rw_istore_n (pc' := 54) (z := 0) (L' := [(3, vI 0), (2, .ref 19), (0, .ref r0), (1, .ref r1)]) rfl rfl rfl ?_)
          refine wp_of e17 c17_54 (rw_aload_n (pc' := 55) (v := .ref r0) rfl rfl rfl ?_)
          refine wp_of e17 c17_55 (rw_iload_n (pc' := 56) (z := 0) rfl rfl ?_)
          refine wp_of e17 c17_56 (rw_if_eq (p1 := 63) (p2 := 59) (by decide) rfl ⟨by omega, by omega⟩ (fun c237793 => ?_) (fun c237793 => ?_))
          · refine wp_of e17 c17_63 (rw_iconst (pc' := 64) rfl ?_)
            refine wp_of e17 c17_64 (xc_V (pc' := 67) (r := r0) (as := [vI 5]) (st := []) (lm_1_47) rfl rfl (Nat.le_of_ble_eq_true rfl) hW g0 sh_3 (by decide) rfl (by decide) (u_20  hW g0 ⟨by omega, by omega⟩ qtk gtk) (fun R237794 T237795 H237796 p237797 => ?_))
            obtain ⟨e237798, w237800, f237801, z237802, e237799, b237803, p237804⟩ := p237797
            subst e237798
            subst e237799
            obtain ⟨a237805, a237806, a237807⟩ := p237804
            have f237808 := f0.tr f237801 rfl
            show wp _ _ 17 67 [(3, vI 0), (2, .ref 19), (0, .ref r0), (1, .ref r1)] [vI z237802] _ H237796 _
            have o237809 : (xline B n q d) = (5, q, q) := by
              unfold xline xl0 xl1 xl2 xl3 xl4 xl5 xl6 xl7 xper
              repeat first | rw [xs_0 (by omega)] | rw [xs_1 (by omega)] | rw [if_pos (by omega)] | rw [if_neg (by omega)]
              first | done | rfl | assumption | (exfalso; omega) | (refine Prod.ext ?_ (Prod.ext ?_ ?_) <;> (try dsimp only) <;> omega)
            have o237809a : ((xline B n q d)).1 = 5 := by rw [o237809]
            have o237809b : ((xline B n q d)).2.1 = q := by rw [o237809]
            have o237809c : ((xline B n q d)).2.2 = q := by rw [o237809]
            exact wp_zreturn e17 c17_67 rfl (by omega) ⟨rfl, w237800, f237808, z237802, rfl, ⟨by omega, by omega⟩, (Or.inr ⟨by omega, by omega, by omega, by omega, by omega⟩)⟩
          · exfalso
            omega
      · exfalso
        omega
    · subst c237435
      show wp _ _ 17 4 [(0, .ref r0), (1, .ref r1)] [.ref 20] _ H _
      refine wp_of e17 c17_4 (rw_astore_n (pc' := 5) (v := .ref 20) (L' := [(2, .ref 20), (0, .ref r0), (1, .ref r1)]) rfl rfl rfl rfl ?_)
      refine wp_of e17 c17_5 (rw_aload_n (pc' := 6) (v := .ref 20) rfl rfl rfl ?_)
      refine wp_of e17 c17_6 (rw_ifnull_r (p1 := 16) (p2 := 9) (by decide) rfl ?_)
      refine wp_of e17 c17_9 (rw_aload_n (pc' := 10) (v := .ref 20) rfl rfl rfl ?_)
      have k237810 : H 20 1 = 3 := (hW.2 20 _ (hW.1.2.2 4 (by decide))).2.2 1 (by decide) |> fun z => by have z1 : (3 : Int) ≤ H 20 1 ∧ H 20 1 ≤ 3 := z; omega
      refine wp_of e17 c17_10 (rw_getI (pc' := 13) (n := 2) (e := _) (lf_1_58).choose_spec.1 (lf_1_58).choose_spec.2.1 (hW.sh (hW.1.2.2 4 (by decide)) rfl) (by decide) rfl rfl ?_)
      rw [k237810]
      refine wp_of e17 c17_13 (rw_if_ne (p1 := 22) (p2 := 16) (by decide) rfl ⟨by omega, by omega⟩ (fun c237811 => ?_) (fun c237811 => ?_))
      · refine wp_of e17 c17_22 (rw_aload_n (pc' := 23) (v := .ref r1) rfl rfl rfl ?_)
        refine wp_of e17 c17_23 (rw_aload_n (pc' := 24) (v := .ref 20) rfl rfl rfl ?_)
        refine wp_of e17 c17_24 (xc_V (pc' := 27) (r := r1) (as := [.ref 20]) (st := []) (lm_1_63) rfl rfl (Nat.le_of_ble_eq_true rfl) hW g1 sh_27 (by decide) rfl (by decide) (u_21_20  hW g1) (fun R237812 T237813 H237814 p237815 => ?_))
        obtain ⟨e237816, e237818, z237819, e237817, b237820, p237821⟩ := p237815
        subst e237816
        subst e237817
        subst e237818
        obtain ⟨a237822, a237823⟩ := p237821
        show wp _ _ 17 27 [(2, .ref 20), (0, .ref r0), (1, .ref r1)] [vI z237819] _ H _
        refine wp_of e17 c17_27 (rw_aload_n (pc' := 28) (v := .ref 20) rfl rfl rfl ?_)
        have k237824 : H 20 1 = 3 := (hW.2 20 _ (hW.1.2.2 4 (by decide))).2.2 1 (by decide) |> fun z => by have z1 : (3 : Int) ≤ H 20 1 ∧ H 20 1 ≤ 3 := z; omega
        refine wp_of e17 c17_28 (rw_getI (pc' := 31) (n := 2) (e := _) (lf_1_58).choose_spec.1 (lf_1_58).choose_spec.2.1 (hW.sh (hW.1.2.2 4 (by decide)) rfl) (by decide) rfl rfl ?_)
        rw [k237824]
        refine wp_of e17 c17_31 (rw_icmp_lt (p1 := 68) (p2 := 34) (by decide) rfl ⟨by omega, by omega⟩ ⟨by omega, by omega⟩ (fun c237825 => ?_) (fun c237825 => ?_))
        · refine wp_of e17 c17_68 (rw_aload_n (pc' := 69) (v := .ref r0) rfl rfl rfl ?_)
          refine wp_of e17 c17_69 (xg_K (pc' := 72) lf_1_12 hW g0 sh_3 (by decide) (by decide) rfl qtk rfl ?_)
          have h237826 : TP T H rb B := TC_tp hTC_tk qrb
          refine wp_of e17 c17_72 (xc_V (pc' := 75) (r := tk) (as := []) (st := []) (lm_1_74) rfl rfl (Nat.le_of_ble_eq_true rfl) hW gtk sh_4 (by decide) rfl (by decide) (u_16 (B := B) (n := n) (a := (xE B n q)) (q := (xN B n q)) hW gtk qrb grb (by omega) (by omega) (by omega) (rfl) h237826) (fun R237827 T237828 H237829 p237830 => ?_))
          obtain ⟨e237831, w237833, f237834, e237832, p237835⟩ := p237830
          subst e237831
          subst e237832
          have f237837 := f0.tr f237834 rfl
          show wp _ _ 17 75 [(2, .ref 20), (0, .ref r0), (1, .ref r1)] [] _ H237829 _
          have u237838 := TC_k p237835
          refine wp_of e17 c17_75 (rw_gs (pc' := 78) (k := 2) rfl rfl rfl rfl ?_)
          refine wp_of e17 c17_78 (rw_aload_n (pc' := 79) (v := .ref 20) rfl rfl rfl ?_)
          refine wp_of e17 c17_79 (rw_ord (pc' := 82) rfl rfl rfl (by decide) (Nat.le_of_ble_eq_true rfl) rfl ?_)
          show wp _ _ 17 82 [(2, .ref 20), (0, .ref r0), (1, .ref r1)] [vI 4, .ref 2] _ H237829 _
          have k237839 : H237829 2 (4 : Int).toNat = 5 := (w237833.2 2 _ w237833.1.2.1).2.2 4 (by decide) |> fun z => by have z1 : (5 : Int) ≤ H237829 2 4 ∧ H237829 2 4 ≤ 5 := z; exact Int.le_antisymm z1.2 z1.1
          refine wp_of e17 c17_82 (rw_iaload (pc' := 83) (n := 11) (w237833.sh w237833.1.2.1 rfl) (by decide) (by decide) (by decide) rfl rfl ?_)
          rw [k237839]
          refine wp_of e17 c17_83 (rw_tsw (p1 := 168) ⟨by omega, by omega⟩ (by decide) ?_)
          refine wp_of e17 c17_168 (rw_aload_n (pc' := 169) (v := .ref r0) rfl rfl rfl ?_)
          refine wp_of e17 c17_169 (rw_aload_n (pc' := 170) (v := .ref r1) rfl rfl rfl ?_)
          have k237841 : H237829 r0 0 = H r0 0 := (f237834 r0 0 _ g0 rfl)
          have q237842 : H237829 r0 0 = (tk : Int) := k237841.trans qtk
          have k237843 : H237829 tk 0 = H tk 0 := (f237834 tk 0 _ gtk rfl)
          have q237844 : H237829 tk 0 = (rb : Int) := k237843.trans qrb
          have h237845 : DC T H237829 r1 d := (DC_fr hW g1 f237834 rfl hDC_r1)
          refine wp_of e17 c17_170 (xc_V (pc' := 173) (r := r0) (as := [.ref r1]) (st := []) (lm_1_102) rfl rfl (Nat.le_of_ble_eq_true rfl) w237833 g0 sh_3 (by decide) rfl (by decide) (u_37 (B := B) (n := n) (q := ((xN B n q))) (d := d) w237833 g0 g1 q237842 gtk q237844 grb (by omega) p237835 h237845) (fun R237846 T237847 H237848 p237849 => ?_))
          obtain ⟨e237850, w237852, f237853, z237854, e237851, b237855, p237856⟩ := p237849
          subst e237850
          subst e237851
          rcases p237856 with ⟨a237857, a237858, a237859, a237860, a237861, a237862⟩ | ⟨a237863, a237864, a237865, a237866, a237867⟩
          · have f237868 := f237837.tr f237853 rfl
            show wp _ _ 17 173 [(2, .ref 20), (0, .ref r0), (1, .ref r1)] [vI z237854] _ H237848 _
            have u237869 := TC_k a237861
            have u237870 := DC_k a237862
            have o237871 : (xline B n q d) = (0, ((xN B n q)), (xN B n ((xN B n q)))) := by
              unfold xline xl0 xl1 xl2 xl3 xl4 xl5 xl6 xl7 xper
              repeat first | rw [xs_0 (by omega)] | rw [xs_1 (by omega)] | rw [if_pos (by omega)] | rw [if_neg (by omega)]
              first | done | rfl | assumption | (exfalso; omega) | (refine Prod.ext ?_ (Prod.ext ?_ ?_) <;> (try dsimp only) <;> omega)
            have o237871a : ((xline B n q d)).1 = 0 := by rw [o237871]
            have o237871b : ((xline B n q d)).2.1 = ((xN B n q)) := by rw [o237871]
            have o237871c : ((xline B n q d)).2.2 = (xN B n ((xN B n q))) := by rw [o237871]
            have o237872 : xdline B n q d = ((xdbo B n ((xN B n q)) d)) := by
              unfold xdline
              repeat first | rw [xs_0 (by omega)] | rw [xs_1 (by omega)] | rw [if_pos (by omega)] | rw [if_neg (by omega)]
              first | done | rfl
            exact wp_zreturn e17 c17_173 rfl (by omega) ⟨rfl, w237852, f237868, z237854, rfl, ⟨by omega, by omega⟩, (Or.inl ⟨by omega, by omega, by omega, by rw [o237871]; exact a237861, by rw [o237872]; exact a237862⟩)⟩
          · have f237873 := f237837.tr f237853 rfl
            show wp _ _ 17 173 [(2, .ref 20), (0, .ref r0), (1, .ref r1)] [vI z237854] _ H237848 _
            have o237874 : (xline B n q d) = ((xbo B n ((xN B n q))).1, (xbo B n ((xN B n q))).2.1, (xbo B n ((xN B n q))).2.2) := by
              unfold xline xl0 xl1 xl2 xl3 xl4 xl5 xl6 xl7 xper
              repeat first | rw [xs_0 (by omega)] | rw [xs_1 (by omega)] | rw [if_pos (by omega)] | rw [if_neg (by omega)]
              first | done | rfl | assumption | (exfalso; omega) | (refine Prod.ext ?_ (Prod.ext ?_ ?_) <;> (try dsimp only) <;> omega)
            have o237874a : ((xline B n q d)).1 = (xbo B n ((xN B n q))).1 := by rw [o237874]
            have o237874b : ((xline B n q d)).2.1 = (xbo B n ((xN B n q))).2.1 := by rw [o237874]
            have o237874c : ((xline B n q d)).2.2 = (xbo B n ((xN B n q))).2.2 := by rw [o237874]
            exact wp_zreturn e17 c17_173 rfl (by omega) ⟨rfl, w237852, f237873, z237854, rfl, ⟨by omega, by omega⟩, (Or.inr ⟨by omega, by omega, by omega, by omega, by omega⟩)⟩
        · refine wp_of e17 c17_34 (rw_aload_n (pc' := 35) (v := .ref 20) rfl rfl rfl ?_)
          refine wp_of e17 c17_35 (rw_gs (pc' := 38) (k := 16) rfl rfl rfl rfl ?_)
          refine wp_of e17 c17_38 (rw_acmp_eq (p1 := 48) (p2 := 41) (a := some 20) (b := some 16) rfl rfl (by decide) rfl (fun q9 => absurd q9 (by decide)) (fun q9 => ?_))
          refine wp_of e17 c17_41 (rw_aload_n (pc' := 42) (v := .ref 20) rfl rfl rfl ?_)
          refine wp_of e17 c17_42 (rw_gs (pc' := 45) (k := 18) rfl rfl rfl rfl ?_)
          refine wp_of e17 c17_45 (rw_acmp_ne (p1 := 52) (p2 := 48) (a := some 20) (b := some 18) rfl rfl (by decide) rfl (fun q9 => ?_) (fun q9 => absurd q9 (by decide)))
          refine wp_of e17 c17_52 (rw_iconst (pc' := 53) rfl ?_)
          refine wp_of e17 c17_53 (rw_istore_n (pc' := 54) (z := 0) (L' := [(3, vI 0), (2, .ref 20), (0, .ref r0), (1, .ref r1)]) rfl rfl rfl ?_)
          refine wp_of e17 c17_54 (rw_aload_n (pc' := 55) (v := .ref r0) rfl rfl rfl ?_)
          refine wp_of e17 c17_55 (rw_iload_n (pc' := 56) (z := 0) rfl rfl ?_)
          refine wp_of e17 c17_56 (rw_if_eq (p1 := 63) (p2 := 59) (by decide) rfl ⟨by omega, by omega⟩ (fun c237875 => ?_) (fun c237875 => ?_))
          · refine wp_of e17 c17_63 (rw_iconst (pc' := 64) rfl ?_)
            refine wp_of e17 c17_64 (xc_V (pc' := 67) (r := r0) (as := [vI 5]) (st := []) (lm_1_47) rfl rfl (Nat.le_of_ble_eq_true rfl) hW g0 sh_3 (by decide) rfl (by decide) (u_20  hW g0 ⟨by omega, by omega⟩ qtk gtk) (fun R237876 T237877 H237878 p237879 => ?_))
            obtain ⟨e237880, w237882, f237883, z237884, e237881, b237885, p237886⟩ := p237879
            subst e237880
            subst e237881
            obtain ⟨a237887, a237888, a237889⟩ := p237886
            have f237890 := f0.tr f237883 rfl
            show wp _ _ 17 67 [(3, vI 0), (2, .ref 20), (0, .ref r0), (1, .ref r1)] [vI z237884] _ H237878 _
            have o237891 : (xline B n q d) = (5, q, q) := by
              unfold xline xl0 xl1 xl2 xl3 xl4 xl5 xl6 xl7 xper
              repeat first | rw [xs_0 (by omega)] | rw [xs_1 (by omega)] | rw [if_pos (by omega)] | rw [if_neg (by omega)]
              first | done | rfl | assumption | (exfalso; omega) | (refine Prod.ext ?_ (Prod.ext ?_ ?_) <;> (try dsimp only) <;> omega)
            have o237891a : ((xline B n q d)).1 = 5 := by rw [o237891]
            have o237891b : ((xline B n q d)).2.1 = q := by rw [o237891]
            have o237891c : ((xline B n q d)).2.2 = q := by rw [o237891]
            exact wp_zreturn e17 c17_67 rfl (by omega) ⟨rfl, w237882, f237890, z237884, rfl, ⟨by omega, by omega⟩, (Or.inr ⟨by omega, by omega, by omega, by omega, by omega⟩)⟩
          · exfalso
            omega
      · exfalso
        omega
    · subst c237435
      show wp _ _ 17 4 [(0, .ref r0), (1, .ref r1)] [.ref 21] _ H _
      refine wp_of e17 c17_4 (rw_astore_n (pc' := 5) (v := .ref 21) (L' := [(2, .ref 21), (0, .ref r0), (1, .ref r1)]) rfl rfl rfl rfl ?_)
      refine wp_of e17 c17_5 (rw_aload_n (pc' := 6) (v := .ref 21) rfl rfl rfl ?_)
      refine wp_of e17 c17_6 (rw_ifnull_r (p1 := 16) (p2 := 9) (by decide) rfl ?_)
      refine wp_of e17 c17_9 (rw_aload_n (pc' := 10) (v := .ref 21) rfl rfl rfl ?_)
      have k237892 : H 21 1 = 24 := (hW.2 21 _ (hW.1.2.2 5 (by decide))).2.2 1 (by decide) |> fun z => by have z1 : (24 : Int) ≤ H 21 1 ∧ H 21 1 ≤ 24 := z; omega
      refine wp_of e17 c17_10 (rw_getI (pc' := 13) (n := 2) (e := _) (lf_1_58).choose_spec.1 (lf_1_58).choose_spec.2.1 (hW.sh (hW.1.2.2 5 (by decide)) rfl) (by decide) rfl rfl ?_)
      rw [k237892]
      refine wp_of e17 c17_13 (rw_if_ne (p1 := 22) (p2 := 16) (by decide) rfl ⟨by omega, by omega⟩ (fun c237893 => ?_) (fun c237893 => ?_))
      · refine wp_of e17 c17_22 (rw_aload_n (pc' := 23) (v := .ref r1) rfl rfl rfl ?_)
        refine wp_of e17 c17_23 (rw_aload_n (pc' := 24) (v := .ref 21) rfl rfl rfl ?_)
        refine wp_of e17 c17_24 (xc_V (pc' := 27) (r := r1) (as := [.ref 21]) (st := []) (lm_1_63) rfl rfl (Nat.le_of_ble_eq_true rfl) hW g1 sh_27 (by decide) rfl (by decide) (u_21_21  hW g1) (fun R237894 T237895 H237896 p237897 => ?_))
        obtain ⟨e237898, e237900, z237901, e237899, b237902, p237903⟩ := p237897
        subst e237898
        subst e237899
        subst e237900
        obtain ⟨a237904, a237905⟩ := p237903
        show wp _ _ 17 27 [(2, .ref 21), (0, .ref r0), (1, .ref r1)] [vI z237901] _ H _
        refine wp_of e17 c17_27 (rw_aload_n (pc' := 28) (v := .ref 21) rfl rfl rfl ?_)
        have k237906 : H 21 1 = 24 := (hW.2 21 _ (hW.1.2.2 5 (by decide))).2.2 1 (by decide) |> fun z => by have z1 : (24 : Int) ≤ H 21 1 ∧ H 21 1 ≤ 24 := z; omega
        refine wp_of e17 c17_28 (rw_getI (pc' := 31) (n := 2) (e := _) (lf_1_58).choose_spec.1 (lf_1_58).choose_spec.2.1 (hW.sh (hW.1.2.2 5 (by decide)) rfl) (by decide) rfl rfl ?_)
        rw [k237906]
        refine wp_of e17 c17_31 (rw_icmp_lt (p1 := 68) (p2 := 34) (by decide) rfl ⟨by omega, by omega⟩ ⟨by omega, by omega⟩ (fun c237907 => ?_) (fun c237907 => ?_))
        · refine wp_of e17 c17_68 (rw_aload_n (pc' := 69) (v := .ref r0) rfl rfl rfl ?_)
          refine wp_of e17 c17_69 (xg_K (pc' := 72) lf_1_12 hW g0 sh_3 (by decide) (by decide) rfl qtk rfl ?_)
          have h237908 : TP T H rb B := TC_tp hTC_tk qrb
          refine wp_of e17 c17_72 (xc_V (pc' := 75) (r := tk) (as := []) (st := []) (lm_1_74) rfl rfl (Nat.le_of_ble_eq_true rfl) hW gtk sh_4 (by decide) rfl (by decide) (u_16 (B := B) (n := n) (a := (xE B n q)) (q := (xN B n q)) hW gtk qrb grb (by omega) (by omega) (by omega) (rfl) h237908) (fun R237909 T237910 H237911 p237912 => ?_))
          obtain ⟨e237913, w237915, f237916, e237914, p237917⟩ := p237912
          subst e237913
          subst e237914
          have f237919 := f0.tr f237916 rfl
          show wp _ _ 17 75 [(2, .ref 21), (0, .ref r0), (1, .ref r1)] [] _ H237911 _
          have u237920 := TC_k p237917
          refine wp_of e17 c17_75 (rw_gs (pc' := 78) (k := 2) rfl rfl rfl rfl ?_)
          refine wp_of e17 c17_78 (rw_aload_n (pc' := 79) (v := .ref 21) rfl rfl rfl ?_)
          refine wp_of e17 c17_79 (rw_ord (pc' := 82) rfl rfl rfl (by decide) (Nat.le_of_ble_eq_true rfl) rfl ?_)
          show wp _ _ 17 82 [(2, .ref 21), (0, .ref r0), (1, .ref r1)] [vI 5, .ref 2] _ H237911 _
          have k237921 : H237911 2 (5 : Int).toNat = 6 := (w237915.2 2 _ w237915.1.2.1).2.2 5 (by decide) |> fun z => by have z1 : (6 : Int) ≤ H237911 2 5 ∧ H237911 2 5 ≤ 6 := z; exact Int.le_antisymm z1.2 z1.1
          refine wp_of e17 c17_82 (rw_iaload (pc' := 83) (n := 11) (w237915.sh w237915.1.2.1 rfl) (by decide) (by decide) (by decide) rfl rfl ?_)
          rw [k237921]
          refine wp_of e17 c17_83 (rw_tsw (p1 := 174) ⟨by omega, by omega⟩ (by decide) ?_)
          refine wp_of e17 c17_174 (rw_aload_n (pc' := 175) (v := .ref r0) rfl rfl rfl ?_)
          refine wp_of e17 c17_175 (rw_aload_n (pc' := 176) (v := .ref r1) rfl rfl rfl ?_)
          have k237923 : H237911 r0 0 = H r0 0 := (f237916 r0 0 _ g0 rfl)
          have q237924 : H237911 r0 0 = (tk : Int) := k237923.trans qtk
          have k237925 : H237911 tk 0 = H tk 0 := (f237916 tk 0 _ gtk rfl)
          have q237926 : H237911 tk 0 = (rb : Int) := k237925.trans qrb
          have h237927 : DC T H237911 r1 d := (DC_fr hW g1 f237916 rfl hDC_r1)
          refine wp_of e17 c17_176 (xc_V (pc' := 179) (r := r0) (as := [.ref r1]) (st := []) (lm_1_105) rfl rfl (Nat.le_of_ble_eq_true rfl) w237915 g0 sh_3 (by decide) rfl (by decide) (u_38 (B := B) (n := n) (q := ((xN B n q))) (d := d) w237915 g0 g1 q237924 gtk q237926 grb p237917 h237927) (fun R237928 T237929 H237930 p237931 => ?_))
          obtain ⟨e237932, w237934, f237935, z237936, e237933, b237937, p237938⟩ := p237931
          subst e237932
          subst e237933
          rcases p237938 with ⟨a237939, a237940, a237941, a237942, a237943, a237944⟩ | ⟨a237945, a237946, a237947, a237948, a237949⟩
          · have f237950 := f237919.tr f237935 rfl
            show wp _ _ 17 179 [(2, .ref 21), (0, .ref r0), (1, .ref r1)] [vI z237936] _ H237930 _
            have u237951 := TC_k a237943
            have u237952 := DC_k a237944
            have o237953 : (xline B n q d) = (0, ((xN B n q)), (xN B n (xN B n (xN B n ((xN B n q)))))) := by
              unfold xline xl0 xl1 xl2 xl3 xl4 xl5 xl6 xl7 xper
              repeat first | rw [xs_0 (by omega)] | rw [xs_1 (by omega)] | rw [if_pos (by omega)] | rw [if_neg (by omega)]
              first | done | rfl | assumption | (exfalso; omega) | (refine Prod.ext ?_ (Prod.ext ?_ ?_) <;> (try dsimp only) <;> omega)
            have o237953a : ((xline B n q d)).1 = 0 := by rw [o237953]
            have o237953b : ((xline B n q d)).2.1 = ((xN B n q)) := by rw [o237953]
            have o237953c : ((xline B n q d)).2.2 = (xN B n (xN B n (xN B n ((xN B n q))))) := by rw [o237953]
            have o237954 : xdline B n q d = ((xdst B n ((xN B n q)) d)) := by
              unfold xdline
              repeat first | rw [xs_0 (by omega)] | rw [xs_1 (by omega)] | rw [if_pos (by omega)] | rw [if_neg (by omega)]
              first | done | rfl
            exact wp_zreturn e17 c17_179 rfl (by omega) ⟨rfl, w237934, f237950, z237936, rfl, ⟨by omega, by omega⟩, (Or.inl ⟨by omega, by omega, by omega, by rw [o237953]; exact a237943, by rw [o237954]; exact a237944⟩)⟩
          · have f237955 := f237919.tr f237935 rfl
            show wp _ _ 17 179 [(2, .ref 21), (0, .ref r0), (1, .ref r1)] [vI z237936] _ H237930 _
            have o237956 : (xline B n q d) = ((xst B n ((xN B n q)) d).1, (xst B n ((xN B n q)) d).2.1, (xst B n ((xN B n q)) d).2.2) := by
              unfold xline xl0 xl1 xl2 xl3 xl4 xl5 xl6 xl7 xper
              repeat first | rw [xs_0 (by omega)] | rw [xs_1 (by omega)] | rw [if_pos (by omega)] | rw [if_neg (by omega)]
              first | done | rfl | assumption | (exfalso; omega) | (refine Prod.ext ?_ (Prod.ext ?_ ?_) <;> (try dsimp only) <;> omega)
            have o237956a : ((xline B n q d)).1 = (xst B n ((xN B n q)) d).1 := by rw [o237956]
            have o237956b : ((xline B n q d)).2.1 = (xst B n ((xN B n q)) d).2.1 := by rw [o237956]
            have o237956c : ((xline B n q d)).2.2 = (xst B n ((xN B n q)) d).2.2 := by rw [o237956]
            exact wp_zreturn e17 c17_179 rfl (by omega) ⟨rfl, w237934, f237955, z237936, rfl, ⟨by omega, by omega⟩, (Or.inr ⟨by omega, by omega, by omega, by omega, by omega⟩)⟩
        · refine wp_of e17 c17_34 (rw_aload_n (pc' := 35) (v := .ref 21) rfl rfl rfl ?_)
          refine wp_of e17 c17_35 (rw_gs (pc' := 38) (k := 16) rfl rfl rfl rfl ?_)
          refine wp_of e17 c17_38 (rw_acmp_eq (p1 := 48) (p2 := 41) (a := some 21) (b := some 16) rfl rfl (by decide) rfl (fun q9 => absurd q9 (by decide)) (fun q9 => ?_))
          refine wp_of e17 c17_41 (rw_aload_n (pc' := 42) (v := .ref 21) rfl rfl rfl ?_)
          refine wp_of e17 c17_42 (rw_gs (pc' := 45) (k := 18) rfl rfl rfl rfl ?_)
          refine wp_of e17 c17_45 (rw_acmp_ne (p1 := 52) (p2 := 48) (a := some 21) (b := some 18) rfl rfl (by decide) rfl (fun q9 => ?_) (fun q9 => absurd q9 (by decide)))
          refine wp_of e17 c17_52 (rw_iconst (pc' := 53) rfl ?_)
          refine wp_of e17 c17_53 (rw_istore_n (pc' := 54) (z := 0) (L' := [(3, vI 0), (2, .ref 21), (0, .ref r0), (1, .ref r1)]) rfl rfl rfl ?_)
          refine wp_of e17 c17_54 (rw_aload_n (pc' := 55) (v := .ref r0) rfl rfl rfl ?_)
          refine wp_of e17 c17_55 (rw_iload_n (pc' := 56) (z := 0) rfl rfl ?_)
          refine wp_of e17 c17_56 (rw_if_eq (p1 := 63) (p2 := 59) (by decide) rfl ⟨by omega, by omega⟩ (fun c237957 => ?_) (fun c237957 => ?_))
          · refine wp_of e17 c17_63 (rw_iconst (pc' := 64) rfl ?_)
            refine wp_of e17 c17_64 (xc_V (pc' := 67) (r := r0) (as := [vI 5]) (st := []) (lm_1_47) rfl rfl (Nat.le_of_ble_eq_true rfl) hW g0 sh_3 (by decide) rfl (by decide) (u_20  hW g0 ⟨by omega, by omega⟩ qtk gtk) (fun R237958 T237959 H237960 p237961 => ?_))
            obtain ⟨e237962, w237964, f237965, z237966, e237963, b237967, p237968⟩ := p237961
            subst e237962
            subst e237963
            obtain ⟨a237969, a237970, a237971⟩ := p237968
            have f237972 := f0.tr f237965 rfl
            show wp _ _ 17 67 [(3, vI 0), (2, .ref 21), (0, .ref r0), (1, .ref r1)] [vI z237966] _ H237960 _
            have o237973 : (xline B n q d) = (5, q, q) := by
              unfold xline xl0 xl1 xl2 xl3 xl4 xl5 xl6 xl7 xper
              repeat first | rw [xs_0 (by omega)] | rw [xs_1 (by omega)] | rw [if_pos (by omega)] | rw [if_neg (by omega)]
              first | done | rfl | assumption | (exfalso; omega) | (refine Prod.ext ?_ (Prod.ext ?_ ?_) <;> (try dsimp only) <;> omega)
            have o237973a : ((xline B n q d)).1 = 5 := by rw [o237973]
            have o237973b : ((xline B n q d)).2.1 = q := by rw [o237973]
            have o237973c : ((xline B n q d)).2.2 = q := by rw [o237973]
            exact wp_zreturn e17 c17_67 rfl (by omega) ⟨rfl, w237964, f237972, z237966, rfl, ⟨by omega, by omega⟩, (Or.inr ⟨by omega, by omega, by omega, by omega, by omega⟩)⟩
          · exfalso
            omega
      · exfalso
        omega
    · subst c237435
      show wp _ _ 17 4 [(0, .ref r0), (1, .ref r1)] [.ref 22] _ H _
      refine wp_of e17 c17_4 (rw_astore_n (pc' := 5) (v := .ref 22) (L' := [(2, .ref 22), (0, .ref r0), (1, .ref r1)]) rfl rfl rfl rfl ?_)
      refine wp_of e17 c17_5 (rw_aload_n (pc' := 6) (v := .ref 22) rfl rfl rfl ?_)
      refine wp_of e17 c17_6 (rw_ifnull_r (p1 := 16) (p2 := 9) (by decide) rfl ?_)
      refine wp_of e17 c17_9 (rw_aload_n (pc' := 10) (v := .ref 22) rfl rfl rfl ?_)
      have k237974 : H 22 1 = 4 := (hW.2 22 _ (hW.1.2.2 6 (by decide))).2.2 1 (by decide) |> fun z => by have z1 : (4 : Int) ≤ H 22 1 ∧ H 22 1 ≤ 4 := z; omega
      refine wp_of e17 c17_10 (rw_getI (pc' := 13) (n := 2) (e := _) (lf_1_58).choose_spec.1 (lf_1_58).choose_spec.2.1 (hW.sh (hW.1.2.2 6 (by decide)) rfl) (by decide) rfl rfl ?_)
      rw [k237974]
      refine wp_of e17 c17_13 (rw_if_ne (p1 := 22) (p2 := 16) (by decide) rfl ⟨by omega, by omega⟩ (fun c237975 => ?_) (fun c237975 => ?_))
      · refine wp_of e17 c17_22 (rw_aload_n (pc' := 23) (v := .ref r1) rfl rfl rfl ?_)
        refine wp_of e17 c17_23 (rw_aload_n (pc' := 24) (v := .ref 22) rfl rfl rfl ?_)
        refine wp_of e17 c17_24 (xc_V (pc' := 27) (r := r1) (as := [.ref 22]) (st := []) (lm_1_63) rfl rfl (Nat.le_of_ble_eq_true rfl) hW g1 sh_27 (by decide) rfl (by decide) (u_21_22  hW g1) (fun R237976 T237977 H237978 p237979 => ?_))
        obtain ⟨e237980, e237982, z237983, e237981, b237984, p237985⟩ := p237979
        subst e237980
        subst e237981
        subst e237982
        obtain ⟨a237986, a237987⟩ := p237985
        show wp _ _ 17 27 [(2, .ref 22), (0, .ref r0), (1, .ref r1)] [vI z237983] _ H _
        refine wp_of e17 c17_27 (rw_aload_n (pc' := 28) (v := .ref 22) rfl rfl rfl ?_)
        have k237988 : H 22 1 = 4 := (hW.2 22 _ (hW.1.2.2 6 (by decide))).2.2 1 (by decide) |> fun z => by have z1 : (4 : Int) ≤ H 22 1 ∧ H 22 1 ≤ 4 := z; omega
        refine wp_of e17 c17_28 (rw_getI (pc' := 31) (n := 2) (e := _) (lf_1_58).choose_spec.1 (lf_1_58).choose_spec.2.1 (hW.sh (hW.1.2.2 6 (by decide)) rfl) (by decide) rfl rfl ?_)
        rw [k237988]
        refine wp_of e17 c17_31 (rw_icmp_lt (p1 := 68) (p2 := 34) (by decide) rfl ⟨by omega, by omega⟩ ⟨by omega, by omega⟩ (fun c237989 => ?_) (fun c237989 => ?_))
        · refine wp_of e17 c17_68 (rw_aload_n (pc' := 69) (v := .ref r0) rfl rfl rfl ?_)
          refine wp_of e17 c17_69 (xg_K (pc' := 72) lf_1_12 hW g0 sh_3 (by decide) (by decide) rfl qtk rfl ?_)
          have h237990 : TP T H rb B := TC_tp hTC_tk qrb
          refine wp_of e17 c17_72 (xc_V (pc' := 75) (r := tk) (as := []) (st := []) (lm_1_74) rfl rfl (Nat.le_of_ble_eq_true rfl) hW gtk sh_4 (by decide) rfl (by decide) (u_16 (B := B) (n := n) (a := (xE B n q)) (q := (xN B n q)) hW gtk qrb grb (by omega) (by omega) (by omega) (rfl) h237990) (fun R237991 T237992 H237993 p237994 => ?_))
          obtain ⟨e237995, w237997, f237998, e237996, p237999⟩ := p237994
          subst e237995
          subst e237996
          have f238001 := f0.tr f237998 rfl
          show wp _ _ 17 75 [(2, .ref 22), (0, .ref r0), (1, .ref r1)] [] _ H237993 _
          have u238002 := TC_k p237999
          refine wp_of e17 c17_75 (rw_gs (pc' := 78) (k := 2) rfl rfl rfl rfl ?_)
          refine wp_of e17 c17_78 (rw_aload_n (pc' := 79) (v := .ref 22) rfl rfl rfl ?_)
          refine wp_of e17 c17_79 (rw_ord (pc' := 82) rfl rfl rfl (by decide) (Nat.le_of_ble_eq_true rfl) rfl ?_)
          show wp _ _ 17 82 [(2, .ref 22), (0, .ref r0), (1, .ref r1)] [vI 6, .ref 2] _ H237993 _
          have k238003 : H237993 2 (6 : Int).toNat = 7 := (w237997.2 2 _ w237997.1.2.1).2.2 6 (by decide) |> fun z => by have z1 : (7 : Int) ≤ H237993 2 6 ∧ H237993 2 6 ≤ 7 := z; exact Int.le_antisymm z1.2 z1.1
          refine wp_of e17 c17_82 (rw_iaload (pc' := 83) (n := 11) (w237997.sh w237997.1.2.1 rfl) (by decide) (by decide) (by decide) rfl rfl ?_)
          rw [k238003]
          refine wp_of e17 c17_83 (rw_tsw (p1 := 180) ⟨by omega, by omega⟩ (by decide) ?_)
          refine wp_of e17 c17_180 (rw_aload_n (pc' := 181) (v := .ref r0) rfl rfl rfl ?_)
          refine wp_of e17 c17_181 (rw_aload_n (pc' := 182) (v := .ref r1) rfl rfl rfl ?_)
          have k238005 : H237993 r0 0 = H r0 0 := (f237998 r0 0 _ g0 rfl)
          have q238006 : H237993 r0 0 = (tk : Int) := k238005.trans qtk
          have k238007 : H237993 tk 0 = H tk 0 := (f237998 tk 0 _ gtk rfl)
          have q238008 : H237993 tk 0 = (rb : Int) := k238007.trans qrb
          have h238009 : DC T H237993 r1 d := (DC_fr hW g1 f237998 rfl hDC_r1)
          refine wp_of e17 c17_182 (xc_V (pc' := 185) (r := r0) (as := [.ref r1]) (st := []) (lm_1_108) rfl rfl (Nat.le_of_ble_eq_true rfl) w237997 g0 sh_3 (by decide) rfl (by decide) (u_42 (B := B) (n := n) (q := ((xN B n q))) (d := d) w237997 g0 g1 q238006 gtk q238008 grb (by omega) p237999 h238009) (fun R238010 T238011 H238012 p238013 => ?_))
          obtain ⟨e238014, w238016, f238017, z238018, e238015, b238019, p238020⟩ := p238013
          subst e238014
          subst e238015
          rcases p238020 with ⟨a238021, a238022, a238023, a238024, a238025, a238026⟩ | ⟨a238027, a238028, a238029, a238030, a238031⟩
          · have f238032 := f238001.tr f238017 rfl
            show wp _ _ 17 185 [(2, .ref 22), (0, .ref r0), (1, .ref r1)] [vI z238018] _ H238012 _
            have u238033 := TC_k a238025
            have u238034 := DC_k a238026
            have o238035 : (xline B n q d) = (0, ((xN B n q)), (xN B n (xN B n (xN B n (xN B n ((xN B n q))))))) := by
              unfold xline xl0 xl1 xl2 xl3 xl4 xl5 xl6 xl7 xper
              repeat first | rw [xs_0 (by omega)] | rw [xs_1 (by omega)] | rw [if_pos (by omega)] | rw [if_neg (by omega)]
              first | done | rfl | assumption | (exfalso; omega) | (refine Prod.ext ?_ (Prod.ext ?_ ?_) <;> (try dsimp only) <;> omega)
            have o238035a : ((xline B n q d)).1 = 0 := by rw [o238035]
            have o238035b : ((xline B n q d)).2.1 = ((xN B n q)) := by rw [o238035]
            have o238035c : ((xline B n q d)).2.2 = (xN B n (xN B n (xN B n (xN B n ((xN B n q)))))) := by rw [o238035]
            have o238036 : xdline B n q d = ((xdtl B n ((xN B n q)) d)) := by
              unfold xdline
              repeat first | rw [xs_0 (by omega)] | rw [xs_1 (by omega)] | rw [if_pos (by omega)] | rw [if_neg (by omega)]
              first | done | rfl
            exact wp_zreturn e17 c17_185 rfl (by omega) ⟨rfl, w238016, f238032, z238018, rfl, ⟨by omega, by omega⟩, (Or.inl ⟨by omega, by omega, by omega, by rw [o238035]; exact a238025, by rw [o238036]; exact a238026⟩)⟩
          · have f238037 := f238001.tr f238017 rfl
            show wp _ _ 17 185 [(2, .ref 22), (0, .ref r0), (1, .ref r1)] [vI z238018] _ H238012 _
            have o238038 : (xline B n q d) = ((xtl B n ((xN B n q)) d).1, (xtl B n ((xN B n q)) d).2.1, (xtl B n ((xN B n q)) d).2.2) := by
              unfold xline xl0 xl1 xl2 xl3 xl4 xl5 xl6 xl7 xper
              repeat first | rw [xs_0 (by omega)] | rw [xs_1 (by omega)] | rw [if_pos (by omega)] | rw [if_neg (by omega)]
              first | done | rfl | assumption | (exfalso; omega) | (refine Prod.ext ?_ (Prod.ext ?_ ?_) <;> (try dsimp only) <;> omega)
            have o238038a : ((xline B n q d)).1 = (xtl B n ((xN B n q)) d).1 := by rw [o238038]
            have o238038b : ((xline B n q d)).2.1 = (xtl B n ((xN B n q)) d).2.1 := by rw [o238038]
            have o238038c : ((xline B n q d)).2.2 = (xtl B n ((xN B n q)) d).2.2 := by rw [o238038]
            exact wp_zreturn e17 c17_185 rfl (by omega) ⟨rfl, w238016, f238037, z238018, rfl, ⟨by omega, by omega⟩, (Or.inr ⟨by omega, by omega, by omega, by omega, by omega⟩)⟩
        · refine wp_of e17 c17_34 (rw_aload_n (pc' := 35) (v := .ref 22) rfl rfl rfl ?_)
          refine wp_of e17 c17_35 (rw_gs (pc' := 38) (k := 16) rfl rfl rfl rfl ?_)
          refine wp_of e17 c17_38 (rw_acmp_eq (p1 := 48) (p2 := 41) (a := some 22) (b := some 16) rfl rfl (by decide) rfl (fun q9 => absurd q9 (by decide)) (fun q9 => ?_))
          refine wp_of e17 c17_41 (rw_aload_n (pc' := 42) (v := .ref 22) rfl rfl rfl ?_)
          refine wp_of e17 c17_42 (rw_gs (pc' := 45) (k := 18) rfl rfl rfl rfl ?_)
          refine wp_of e17 c17_45 (rw_acmp_ne (p1 := 52) (p2 := 48) (a := some 22) (b := some 18) rfl rfl (by decide) rfl (fun q9 => ?_) (fun q9 => absurd q9 (by decide)))
          refine wp_of e17 c17_52 (rw_iconst (pc' := 53) rfl ?_)
          refine wp_of e17 c17_53 (rw_istore_n (pc' := 54) (z := 0) (L' := [(3, vI 0), (2, .ref 22), (0, .ref r0), (1, .ref r1)]) rfl rfl rfl ?_)
          refine wp_of e17 c17_54 (rw_aload_n (pc' := 55) (v := .ref r0) rfl rfl rfl ?_)
          refine wp_of e17 c17_55 (rw_iload_n (pc' := 56) (z := 0) rfl rfl ?_)
          refine wp_of e17 c17_56 (rw_if_eq (p1 := 63) (p2 := 59) (by decide) rfl ⟨by omega, by omega⟩ (fun c238039 => ?_) (fun c238039 => ?_))
          · refine wp_of e17 c17_63 (rw_iconst (pc' := 64) rfl ?_)
            refine wp_of e17 c17_64 (xc_V (pc' := 67) (r := r0) (as := [vI 5]) (st := []) (lm_1_47) rfl rfl (Nat.le_of_ble_eq_true rfl) hW g0 sh_3 (by decide) rfl (by decide) (u_20  hW g0 ⟨by omega, by omega⟩ qtk gtk) (fun R238040 T238041 H238042 p238043 => ?_))
            obtain ⟨e238044, w238046, f238047, z238048, e238045, b238049, p238050⟩ := p238043
            subst e238044
            subst e238045
            obtain ⟨a238051, a238052, a238053⟩ := p238050
            have f238054 := f0.tr f238047 rfl
            show wp _ _ 17 67 [(3, vI 0), (2, .ref 22), (0, .ref r0), (1, .ref r1)] [vI z238048] _ H238042 _
            have o238055 : (xline B n q d) = (5, q, q) := by
              unfold xline xl0 xl1 xl2 xl3 xl4 xl5 xl6 xl7 xper
              repeat first | rw [xs_0 (by omega)] | rw [xs_1 (by omega)] | rw [if_pos (by omega)] | rw [if_neg (by omega)]
              first | done | rfl | assumption | (exfalso; omega) | (refine Prod.ext ?_ (Prod.ext ?_ ?_) <;> (try dsimp only) <;> omega)
            have o238055a : ((xline B n q d)).1 = 5 := by rw [o238055]
            have o238055b : ((xline B n q d)).2.1 = q := by rw [o238055]
            have o238055c : ((xline B n q d)).2.2 = q := by rw [o238055]
            exact wp_zreturn e17 c17_67 rfl (by omega) ⟨rfl, w238046, f238054, z238048, rfl, ⟨by omega, by omega⟩, (Or.inr ⟨by omega, by omega, by omega, by omega, by omega⟩)⟩
          · exfalso
            omega
      · exfalso
        omega
    · subst c237435
      show wp _ _ 17 4 [(0, .ref r0), (1, .ref r1)] [.ref 23] _ H _
      refine wp_of e17 c17_4 (rw_astore_n (pc' := 5) (v := .ref 23) (L' := [(2, .ref 23), (0, .ref r0), (1, .ref r1)]) rfl rfl rfl rfl ?_)
      refine wp_of e17 c17_5 (rw_aload_n (pc' := 6) (v := .ref 23) rfl rfl rfl ?_)
      refine wp_of e17 c17_6 (rw_ifnull_r (p1 := 16) (p2 := 9) (by decide) rfl ?_)
      refine wp_of e17 c17_9 (rw_aload_n (pc' := 10) (v := .ref 23) rfl rfl rfl ?_)
      have k238056 : H 23 1 = 6 := (hW.2 23 _ (hW.1.2.2 7 (by decide))).2.2 1 (by decide) |> fun z => by have z1 : (6 : Int) ≤ H 23 1 ∧ H 23 1 ≤ 6 := z; omega
      refine wp_of e17 c17_10 (rw_getI (pc' := 13) (n := 2) (e := _) (lf_1_58).choose_spec.1 (lf_1_58).choose_spec.2.1 (hW.sh (hW.1.2.2 7 (by decide)) rfl) (by decide) rfl rfl ?_)
      rw [k238056]
      refine wp_of e17 c17_13 (rw_if_ne (p1 := 22) (p2 := 16) (by decide) rfl ⟨by omega, by omega⟩ (fun c238057 => ?_) (fun c238057 => ?_))
      · refine wp_of e17 c17_22 (rw_aload_n (pc' := 23) (v := .ref r1) rfl rfl rfl ?_)
        refine wp_of e17 c17_23 (rw_aload_n (pc' := 24) (v := .ref 23) rfl rfl rfl ?_)
        refine wp_of e17 c17_24 (xc_V (pc' := 27) (r := r1) (as := [.ref 23]) (st := []) (lm_1_63) rfl rfl (Nat.le_of_ble_eq_true rfl) hW g1 sh_27 (by decide) rfl (by decide) (u_21_23  hW g1) (fun R238058 T238059 H238060 p238061 => ?_))
        obtain ⟨e238062, e238064, z238065, e238063, b238066, p238067⟩ := p238061
        subst e238062
        subst e238063
        subst e238064
        obtain ⟨a238068, a238069⟩ := p238067
        show wp _ _ 17 27 [(2, .ref 23), (0, .ref r0), (1, .ref r1)] [vI z238065] _ H _
        refine wp_of e17 c17_27 (rw_aload_n (pc' := 28) (v := .ref 23) rfl rfl rfl ?_)
        have k238070 : H 23 1 = 6 := (hW.2 23 _ (hW.1.2.2 7 (by decide))).2.2 1 (by decide) |> fun z => by have z1 : (6 : Int) ≤ H 23 1 ∧ H 23 1 ≤ 6 := z; omega
        refine wp_of e17 c17_28 (rw_getI (pc' := 31) (n := 2) (e := _) (lf_1_58).choose_spec.1 (lf_1_58).choose_spec.2.1 (hW.sh (hW.1.2.2 7 (by decide)) rfl) (by decide) rfl rfl ?_)
        rw [k238070]
        refine wp_of e17 c17_31 (rw_icmp_lt (p1 := 68) (p2 := 34) (by decide) rfl ⟨by omega, by omega⟩ ⟨by omega, by omega⟩ (fun c238071 => ?_) (fun c238071 => ?_))
        · refine wp_of e17 c17_68 (rw_aload_n (pc' := 69) (v := .ref r0) rfl rfl rfl ?_)
          refine wp_of e17 c17_69 (xg_K (pc' := 72) lf_1_12 hW g0 sh_3 (by decide) (by decide) rfl qtk rfl ?_)
          have h238072 : TP T H rb B := TC_tp hTC_tk qrb
          refine wp_of e17 c17_72 (xc_V (pc' := 75) (r := tk) (as := []) (st := []) (lm_1_74) rfl rfl (Nat.le_of_ble_eq_true rfl) hW gtk sh_4 (by decide) rfl (by decide) (u_16 (B := B) (n := n) (a := (xE B n q)) (q := (xN B n q)) hW gtk qrb grb (by omega) (by omega) (by omega) (rfl) h238072) (fun R238073 T238074 H238075 p238076 => ?_))
          obtain ⟨e238077, w238079, f238080, e238078, p238081⟩ := p238076
          subst e238077
          subst e238078
          have f238083 := f0.tr f238080 rfl
          show wp _ _ 17 75 [(2, .ref 23), (0, .ref r0), (1, .ref r1)] [] _ H238075 _
          have u238084 := TC_k p238081
          refine wp_of e17 c17_75 (rw_gs (pc' := 78) (k := 2) rfl rfl rfl rfl ?_)
          refine wp_of e17 c17_78 (rw_aload_n (pc' := 79) (v := .ref 23) rfl rfl rfl ?_)
          refine wp_of e17 c17_79 (rw_ord (pc' := 82) rfl rfl rfl (by decide) (Nat.le_of_ble_eq_true rfl) rfl ?_)
          show wp _ _ 17 82 [(2, .ref 23), (0, .ref r0), (1, .ref r1)] [vI 7, .ref 2] _ H238075 _
          have k238085 : H238075 2 (7 : Int).toNat = 8 := (w238079.2 2 _ w238079.1.2.1).2.2 7 (by decide) |> fun z => by have z1 : (8 : Int) ≤ H238075 2 7 ∧ H238075 2 7 ≤ 8 := z; exact Int.le_antisymm z1.2 z1.1
          refine wp_of e17 c17_82 (rw_iaload (pc' := 83) (n := 11) (w238079.sh w238079.1.2.1 rfl) (by decide) (by decide) (by decide) rfl rfl ?_)
          rw [k238085]
          refine wp_of e17 c17_83 (rw_tsw (p1 := 186) ⟨by omega, by omega⟩ (by decide) ?_)
          refine wp_of e17 c17_186 (rw_aload_n (pc' := 187) (v := .ref r0) rfl rfl rfl ?_)
          refine wp_of e17 c17_187 (rw_aload_n (pc' := 188) (v := .ref r1) rfl rfl rfl ?_)
          have k238087 : H238075 r0 0 = H r0 0 := (f238080 r0 0 _ g0 rfl)
          have q238088 : H238075 r0 0 = (tk : Int) := k238087.trans qtk
          have k238089 : H238075 tk 0 = H tk 0 := (f238080 tk 0 _ gtk rfl)
          have q238090 : H238075 tk 0 = (rb : Int) := k238089.trans qrb
          have h238091 : DC T H238075 r1 d := (DC_fr hW g1 f238080 rfl hDC_r1)
          refine wp_of e17 c17_188 (xc_V (pc' := 191) (r := r0) (as := [.ref r1]) (st := []) (lm_1_111) rfl rfl (Nat.le_of_ble_eq_true rfl) w238079 g0 sh_3 (by decide) rfl (by decide) (u_43 (B := B) (n := n) (q := ((xN B n q))) (d := d) w238079 g0 g1 q238088 gtk q238090 grb (by omega) p238081 h238091) (fun R238092 T238093 H238094 p238095 => ?_))
          obtain ⟨e238096, w238098, f238099, z238100, e238097, b238101, p238102⟩ := p238095
          subst e238096
          subst e238097
          rcases p238102 with ⟨a238103, a238104, a238105, a238106, a238107, a238108⟩ | ⟨a238109, a238110, a238111, a238112, a238113⟩
          · have f238114 := f238083.tr f238099 rfl
            show wp _ _ 17 191 [(2, .ref 23), (0, .ref r0), (1, .ref r1)] [vI z238100] _ H238094 _
            have u238115 := TC_k a238107
            have u238116 := DC_k a238108
            have o238117 : (xline B n q d) = (0, ((xN B n q)), (xN B n (xN B n (xN B n (xN B n ((xN B n q))))))) := by
              unfold xline xl0 xl1 xl2 xl3 xl4 xl5 xl6 xl7 xper
              repeat first | rw [xs_0 (by omega)] | rw [xs_1 (by omega)] | rw [if_pos (by omega)] | rw [if_neg (by omega)]
              first | done | rfl | assumption | (exfalso; omega) | (refine Prod.ext ?_ (Prod.ext ?_ ?_) <;> (try dsimp only) <;> omega)
            have o238117a : ((xline B n q d)).1 = 0 := by rw [o238117]
            have o238117b : ((xline B n q d)).2.1 = ((xN B n q)) := by rw [o238117]
            have o238117c : ((xline B n q d)).2.2 = (xN B n (xN B n (xN B n (xN B n ((xN B n q)))))) := by rw [o238117]
            have o238118 : xdline B n q d = ((xdof B n ((xN B n q)) d)) := by
              unfold xdline
              repeat first | rw [xs_0 (by omega)] | rw [xs_1 (by omega)] | rw [if_pos (by omega)] | rw [if_neg (by omega)]
              first | done | rfl
            exact wp_zreturn e17 c17_191 rfl (by omega) ⟨rfl, w238098, f238114, z238100, rfl, ⟨by omega, by omega⟩, (Or.inl ⟨by omega, by omega, by omega, by rw [o238117]; exact a238107, by rw [o238118]; exact a238108⟩)⟩
          · have f238119 := f238083.tr f238099 rfl
            show wp _ _ 17 191 [(2, .ref 23), (0, .ref r0), (1, .ref r1)] [vI z238100] _ H238094 _
            have o238120 : (xline B n q d) = ((xtl B n ((xN B n q)) d).1, (xtl B n ((xN B n q)) d).2.1, (xtl B n ((xN B n q)) d).2.2) := by
              unfold xline xl0 xl1 xl2 xl3 xl4 xl5 xl6 xl7 xper
              repeat first | rw [xs_0 (by omega)] | rw [xs_1 (by omega)] | rw [if_pos (by omega)] | rw [if_neg (by omega)]
              first | done | rfl | assumption | (exfalso; omega) | (refine Prod.ext ?_ (Prod.ext ?_ ?_) <;> (try dsimp only) <;> omega)
            have o238120a : ((xline B n q d)).1 = (xtl B n ((xN B n q)) d).1 := by rw [o238120]
            have o238120b : ((xline B n q d)).2.1 = (xtl B n ((xN B n q)) d).2.1 := by rw [o238120]
            have o238120c : ((xline B n q d)).2.2 = (xtl B n ((xN B n q)) d).2.2 := by rw [o238120]
            exact wp_zreturn e17 c17_191 rfl (by omega) ⟨rfl, w238098, f238119, z238100, rfl, ⟨by omega, by omega⟩, (Or.inr ⟨by omega, by omega, by omega, by omega, by omega⟩)⟩
        · refine wp_of e17 c17_34 (rw_aload_n (pc' := 35) (v := .ref 23) rfl rfl rfl ?_)
          refine wp_of e17 c17_35 (rw_gs (pc' := 38) (k := 16) rfl rfl rfl rfl ?_)
          refine wp_of e17 c17_38 (rw_acmp_eq (p1 := 48) (p2 := 41) (a := some 23) (b := some 16) rfl rfl (by decide) rfl (fun q9 => absurd q9 (by decide)) (fun q9 => ?_))
          refine wp_of e17 c17_41 (rw_aload_n (pc' := 42) (v := .ref 23) rfl rfl rfl ?_)
          refine wp_of e17 c17_42 (rw_gs (pc' := 45) (k := 18) rfl rfl rfl rfl ?_)
          refine wp_of e17 c17_45 (rw_acmp_ne (p1 := 52) (p2 := 48) (a := some 23) (b := some 18) rfl rfl (by decide) rfl (fun q9 => ?_) (fun q9 => absurd q9 (by decide)))
          refine wp_of e17 c17_52 (rw_iconst (pc' := 53) rfl ?_)
          refine wp_of e17 c17_53 (rw_istore_n (pc' := 54) (z := 0) (L' := [(3, vI 0), (2, .ref 23), (0, .ref r0), (1, .ref r1)]) rfl rfl rfl ?_)
          refine wp_of e17 c17_54 (rw_aload_n (pc' := 55) (v := .ref r0) rfl rfl rfl ?_)
          refine wp_of e17 c17_55 (rw_iload_n (pc' := 56) (z := 0) rfl rfl ?_)
          refine wp_of e17 c17_56 (rw_if_eq (p1 := 63) (p2 := 59) (by decide) rfl ⟨by omega, by omega⟩ (fun c238121 => ?_) (fun c238121 => ?_))
          · refine wp_of e17 c17_63 (rw_iconst (pc' := 64) rfl ?_)
            refine wp_of e17 c17_64 (xc_V (pc' := 67) (r := r0) (as := [vI 5]) (st := []) (lm_1_47) rfl rfl (Nat.le_of_ble_eq_true rfl) hW g0 sh_3 (by decide) rfl (by decide) (u_20  hW g0 ⟨by omega, by omega⟩ qtk gtk) (fun R238122 T238123 H238124 p238125 => ?_))
            obtain ⟨e238126, w238128, f238129, z238130, e238127, b238131, p238132⟩ := p238125
            subst e238126
            subst e238127
            obtain ⟨a238133, a238134, a238135⟩ := p238132
            have f238136 := f0.tr f238129 rfl
            show wp _ _ 17 67 [(3, vI 0), (2, .ref 23), (0, .ref r0), (1, .ref r1)] [vI z238130] _ H238124 _
            have o238137 : (xline B n q d) = (5, q, q) := by
              unfold xline xl0 xl1 xl2 xl3 xl4 xl5 xl6 xl7 xper
              repeat first | rw [xs_0 (by omega)] | rw [xs_1 (by omega)] | rw [if_pos (by omega)] | rw [if_neg (by omega)]
              first | done | rfl | assumption | (exfalso; omega) | (refine Prod.ext ?_ (Prod.ext ?_ ?_) <;> (try dsimp only) <;> omega)
            have o238137a : ((xline B n q d)).1 = 5 := by rw [o238137]
            have o238137b : ((xline B n q d)).2.1 = q := by rw [o238137]
            have o238137c : ((xline B n q d)).2.2 = q := by rw [o238137]
            exact wp_zreturn e17 c17_67 rfl (by omega) ⟨rfl, w238128, f238136, z238130, rfl, ⟨by omega, by omega⟩, (Or.inr ⟨by omega, by omega, by omega, by omega, by omega⟩)⟩
          · exfalso
            omega
      · exfalso
        omega
    · subst c237435
      show wp _ _ 17 4 [(0, .ref r0), (1, .ref r1)] [.ref 24] _ H _
      refine wp_of e17 c17_4 (rw_astore_n (pc' := 5) (v := .ref 24) (L' := [(2, .ref 24), (0, .ref r0), (1, .ref r1)]) rfl rfl rfl rfl ?_)
      refine wp_of e17 c17_5 (rw_aload_n (pc' := 6) (v := .ref 24) rfl rfl rfl ?_)
      refine wp_of e17 c17_6 (rw_ifnull_r (p1 := 16) (p2 := 9) (by decide) rfl ?_)
      refine wp_of e17 c17_9 (rw_aload_n (pc' := 10) (v := .ref 24) rfl rfl rfl ?_)
      have k238138 : H 24 1 = 0 := (hW.2 24 _ (hW.1.2.2 8 (by decide))).2.2 1 (by decide) |> fun z => by have z1 : (0 : Int) ≤ H 24 1 ∧ H 24 1 ≤ 0 := z; omega
      refine wp_of e17 c17_10 (rw_getI (pc' := 13) (n := 2) (e := _) (lf_1_58).choose_spec.1 (lf_1_58).choose_spec.2.1 (hW.sh (hW.1.2.2 8 (by decide)) rfl) (by decide) rfl rfl ?_)
      rw [k238138]
      refine wp_of e17 c17_13 (rw_if_ne (p1 := 22) (p2 := 16) (by decide) rfl ⟨by omega, by omega⟩ (fun c238139 => ?_) (fun c238139 => ?_))
      · exfalso
        omega
      · refine wp_of e17 c17_16 (rw_aload_n (pc' := 17) (v := .ref r0) rfl rfl rfl ?_)
        refine wp_of e17 c17_17 (rw_iconst (pc' := 18) rfl ?_)
        refine wp_of e17 c17_18 (xc_V (pc' := 21) (r := r0) (as := [vI 1]) (st := []) (lm_1_47) rfl rfl (Nat.le_of_ble_eq_true rfl) hW g0 sh_3 (by decide) rfl (by decide) (u_20  hW g0 ⟨by omega, by omega⟩ qtk gtk) (fun R238140 T238141 H238142 p238143 => ?_))
        obtain ⟨e238144, w238146, f238147, z238148, e238145, b238149, p238150⟩ := p238143
        subst e238144
        subst e238145
        obtain ⟨a238151, a238152, a238153⟩ := p238150
        have f238154 := f0.tr f238147 rfl
        show wp _ _ 17 21 [(2, .ref 24), (0, .ref r0), (1, .ref r1)] [vI z238148] _ H238142 _
        have o238155 : (xline B n q d) = (1, q, q) := by
          unfold xline xl0 xl1 xl2 xl3 xl4 xl5 xl6 xl7 xper
          repeat first | rw [xs_0 (by omega)] | rw [xs_1 (by omega)] | rw [if_pos (by omega)] | rw [if_neg (by omega)]
          first | done | rfl | assumption | (exfalso; omega) | (refine Prod.ext ?_ (Prod.ext ?_ ?_) <;> (try dsimp only) <;> omega)
        have o238155a : ((xline B n q d)).1 = 1 := by rw [o238155]
        have o238155b : ((xline B n q d)).2.1 = q := by rw [o238155]
        have o238155c : ((xline B n q d)).2.2 = q := by rw [o238155]
        exact wp_zreturn e17 c17_21 rfl (by omega) ⟨rfl, w238146, f238154, z238148, rfl, ⟨by omega, by omega⟩, (Or.inr ⟨by omega, by omega, by omega, by omega, by omega⟩)⟩
    · subst c237435
      show wp _ _ 17 4 [(0, .ref r0), (1, .ref r1)] [.ref 25] _ H _
      refine wp_of e17 c17_4 (rw_astore_n (pc' := 5) (v := .ref 25) (L' := [(2, .ref 25), (0, .ref r0), (1, .ref r1)]) rfl rfl rfl rfl ?_)
      refine wp_of e17 c17_5 (rw_aload_n (pc' := 6) (v := .ref 25) rfl rfl rfl ?_)
      refine wp_of e17 c17_6 (rw_ifnull_r (p1 := 16) (p2 := 9) (by decide) rfl ?_)
      refine wp_of e17 c17_9 (rw_aload_n (pc' := 10) (v := .ref 25) rfl rfl rfl ?_)
      have k238156 : H 25 1 = 0 := (hW.2 25 _ (hW.1.2.2 9 (by decide))).2.2 1 (by decide) |> fun z => by have z1 : (0 : Int) ≤ H 25 1 ∧ H 25 1 ≤ 0 := z; omega
      refine wp_of e17 c17_10 (rw_getI (pc' := 13) (n := 2) (e := _) (lf_1_58).choose_spec.1 (lf_1_58).choose_spec.2.1 (hW.sh (hW.1.2.2 9 (by decide)) rfl) (by decide) rfl rfl ?_)
      rw [k238156]
      refine wp_of e17 c17_13 (rw_if_ne (p1 := 22) (p2 := 16) (by decide) rfl ⟨by omega, by omega⟩ (fun c238157 => ?_) (fun c238157 => ?_))
      · exfalso
        omega
      · refine wp_of e17 c17_16 (rw_aload_n (pc' := 17) (v := .ref r0) rfl rfl rfl ?_)
        refine wp_of e17 c17_17 (rw_iconst (pc' := 18) rfl ?_)
        refine wp_of e17 c17_18 (xc_V (pc' := 21) (r := r0) (as := [vI 1]) (st := []) (lm_1_47) rfl rfl (Nat.le_of_ble_eq_true rfl) hW g0 sh_3 (by decide) rfl (by decide) (u_20  hW g0 ⟨by omega, by omega⟩ qtk gtk) (fun R238158 T238159 H238160 p238161 => ?_))
        obtain ⟨e238162, w238164, f238165, z238166, e238163, b238167, p238168⟩ := p238161
        subst e238162
        subst e238163
        obtain ⟨a238169, a238170, a238171⟩ := p238168
        have f238172 := f0.tr f238165 rfl
        show wp _ _ 17 21 [(2, .ref 25), (0, .ref r0), (1, .ref r1)] [vI z238166] _ H238160 _
        have o238173 : (xline B n q d) = (1, q, q) := by
          unfold xline xl0 xl1 xl2 xl3 xl4 xl5 xl6 xl7 xper
          repeat first | rw [xs_0 (by omega)] | rw [xs_1 (by omega)] | rw [if_pos (by omega)] | rw [if_neg (by omega)]
          first | done | rfl | assumption | (exfalso; omega) | (refine Prod.ext ?_ (Prod.ext ?_ ?_) <;> (try dsimp only) <;> omega)
        have o238173a : ((xline B n q d)).1 = 1 := by rw [o238173]
        have o238173b : ((xline B n q d)).2.1 = q := by rw [o238173]
        have o238173c : ((xline B n q d)).2.2 = q := by rw [o238173]
        exact wp_zreturn e17 c17_21 rfl (by omega) ⟨rfl, w238164, f238172, z238166, rfl, ⟨by omega, by omega⟩, (Or.inr ⟨by omega, by omega, by omega, by omega, by omega⟩)⟩
    · subst c237435
      show wp _ _ 17 4 [(0, .ref r0), (1, .ref r1)] [.ref 26] _ H _
      refine wp_of e17 c17_4 (rw_astore_n (pc' := 5) (v := .ref 26) (L' := [(2, .ref 26), (0, .ref r0), (1, .ref r1)]) rfl rfl rfl rfl ?_)
      refine wp_of e17 c17_5 (rw_aload_n (pc' := 6) (v := .ref 26) rfl rfl rfl ?_)
      refine wp_of e17 c17_6 (rw_ifnull_r (p1 := 16) (p2 := 9) (by decide) rfl ?_)
      refine wp_of e17 c17_9 (rw_aload_n (pc' := 10) (v := .ref 26) rfl rfl rfl ?_)
      have k238174 : H 26 1 = 0 := (hW.2 26 _ (hW.1.2.2 10 (by decide))).2.2 1 (by decide) |> fun z => by have z1 : (0 : Int) ≤ H 26 1 ∧ H 26 1 ≤ 0 := z; omega
      refine wp_of e17 c17_10 (rw_getI (pc' := 13) (n := 2) (e := _) (lf_1_58).choose_spec.1 (lf_1_58).choose_spec.2.1 (hW.sh (hW.1.2.2 10 (by decide)) rfl) (by decide) rfl rfl ?_)
      rw [k238174]
      refine wp_of e17 c17_13 (rw_if_ne (p1 := 22) (p2 := 16) (by decide) rfl ⟨by omega, by omega⟩ (fun c238175 => ?_) (fun c238175 => ?_))
      · exfalso
        omega
      · refine wp_of e17 c17_16 (rw_aload_n (pc' := 17) (v := .ref r0) rfl rfl rfl ?_)
        refine wp_of e17 c17_17 (rw_iconst (pc' := 18) rfl ?_)
        refine wp_of e17 c17_18 (xc_V (pc' := 21) (r := r0) (as := [vI 1]) (st := []) (lm_1_47) rfl rfl (Nat.le_of_ble_eq_true rfl) hW g0 sh_3 (by decide) rfl (by decide) (u_20  hW g0 ⟨by omega, by omega⟩ qtk gtk) (fun R238176 T238177 H238178 p238179 => ?_))
        obtain ⟨e238180, w238182, f238183, z238184, e238181, b238185, p238186⟩ := p238179
        subst e238180
        subst e238181
        obtain ⟨a238187, a238188, a238189⟩ := p238186
        have f238190 := f0.tr f238183 rfl
        show wp _ _ 17 21 [(2, .ref 26), (0, .ref r0), (1, .ref r1)] [vI z238184] _ H238178 _
        have o238191 : (xline B n q d) = (1, q, q) := by
          unfold xline xl0 xl1 xl2 xl3 xl4 xl5 xl6 xl7 xper
          repeat first | rw [xs_0 (by omega)] | rw [xs_1 (by omega)] | rw [if_pos (by omega)] | rw [if_neg (by omega)]
          first | done | rfl | assumption | (exfalso; omega) | (refine Prod.ext ?_ (Prod.ext ?_ ?_) <;> (try dsimp only) <;> omega)
        have o238191a : ((xline B n q d)).1 = 1 := by rw [o238191]
        have o238191b : ((xline B n q d)).2.1 = q := by rw [o238191]
        have o238191c : ((xline B n q d)).2.2 = q := by rw [o238191]
        exact wp_zreturn e17 c17_21 rfl (by omega) ⟨rfl, w238182, f238190, z238184, rfl, ⟨by omega, by omega⟩, (Or.inr ⟨by omega, by omega, by omega, by omega, by omega⟩)⟩
/-! StrikeAwake$Reader.reads([BILStrikeAwake$Parish;)Z  -/
abbrev uq_13 (r0 : Nat) (r1 : Nat) (a2 : Int) (r3 : Nat) (tk : Nat) (B : Nat → Int) (T : wq_T) (H : wq_H) : Option Value → wq_T → wq_H → Prop := fun r T' H' => T = T' ∧ WT T H' ∧ wfr [(27, 7), (27, 8), (27, 9), (27, 10), (27, 11), (27, 12), (27, 13), (27, 14), (27, 15), (27, 16), (27, 17), (27, 18), (35, 6), (35, 7), (35, 8), (35, 9), (35, 10), (35, 11), (35, 12), (35, 13), (35, 14), (35, 15), (35, 16), (35, 17), (3, 1), (3, 2), (3, 3), (3, 4), (4, 0), (4, 1), (4, 2), (4, 3), (4, 4), (4, 5), (4, 6), (31, 999), (34, 999), (29, 999), (30, 999), (33, 999), (32, 999)] T H H' ∧ ∃ z : Int, some (vI z) = r ∧ (0 ≤ z ∧ z ≤ 1) ∧ (((z = 1) ∧ (((xparse B a2).1).1 = 0) ∧ DC T H' r3 ((xparse B a2).2)) ∨ ((z = 0) ∧ (((xparse B a2).1).1 ≠ 0) ∧ (H' r0 3 = ((xparse B a2).1).1) ∧ (H' r0 4 = ((xparse B a2).1).2.1)))
set_option maxHeartbeats 4000000 in
theorem u_13 {kt : Nat → Option mc_E} {T : wq_T} {H : wq_H} {r0 : Nat} {r1 : Nat} {a2 : Int} {r3 : Nat} {tk : Nat} {B : Nat → Int} (hW : WT T H) (g0 : T.2.2.2 r0 = some 3) (g1 : T.2.2.2 r1 = some 2) (i2 : 0 ≤ a2 ∧ a2 ≤ 900) (g3 : T.2.2.2 r3 = some 27) (qtk : H r0 0 = (tk : Int)) (gtk : T.2.2.2 tk = some 4) (hTP_r1 : TP T H r1 B) (hDD_r3 : DD T H r3 ) : wpc kt 7 13 [.ref r0, .ref r1, vI a2, .ref r3] T H (uq_13 r0 r1 a2 r3 tk B T H) := by
  refine wp_enter e13 (Nat.le_of_ble_eq_true rfl) rfl ?_
  have f0 : wfr [(27, 7), (27, 8), (27, 9), (27, 10), (27, 11), (27, 12), (27, 13), (27, 14), (27, 15), (27, 16), (27, 17), (27, 18), (35, 6), (35, 7), (35, 8), (35, 9), (35, 10), (35, 11), (35, 12), (35, 13), (35, 14), (35, 15), (35, 16), (35, 17), (3, 1), (3, 2), (3, 3), (3, 4), (4, 0), (4, 1), (4, 2), (4, 3), (4, 4), (4, 5), (4, 6), (31, 999), (34, 999), (29, 999), (30, 999), (33, 999), (32, 999)] T H H := wfr.rf
  show wp _ _ 13 0 [(0, .ref r0), (1, .ref r1), (2, vI a2), (3, .ref r3)] [] _ H _
  refine wp_of e13 c13_0 (rw_aload_n (pc' := 1) (v := .ref r0) rfl rfl rfl ?_)
  refine wp_of e13 c13_1 (rw_iconst (pc' := 2) rfl ?_)
  refine wp_of e13 c13_2 (xp_I (pc' := 5) lf_1_18 hW g0 sh_3 (by decide) (by decide) ty_3_3 rfl rfl (by omega) (by omega) ⟨by omega, by omega⟩ rfl (fun H238832 e238833 w238834 => ?_))
  have f238835 := f0.put' e238833 g0 rfl
  have k238836 : H238832 r0 3 = 0 := wq_u_s e238833
  refine wp_of e13 c13_5 (rw_aload_n (pc' := 6) (v := .ref r0) rfl rfl rfl ?_)
  refine wp_of e13 c13_6 (rw_iconst (pc' := 7) rfl ?_)
  refine wp_of e13 c13_7 (xp_I (pc' := 10) lf_1_22 w238834 g0 sh_3 (by decide) (by decide) ty_3_4 rfl rfl (by omega) (by omega) ⟨by omega, by omega⟩ rfl (fun H238837 e238838 w238839 => ?_))
  have f238840 := f238835.put' e238838 g0 rfl
  have k238841 : H238837 r0 4 = -1 := wq_u_s e238838
  refine wp_of e13 c13_10 (rw_aload_n (pc' := 11) (v := .ref r3) rfl rfl rfl ?_)
  refine wp_of e13 c13_11 (xc_V (pc' := 14) (r := r3) (as := []) (st := []) (lm_1_25) rfl rfl (Nat.le_of_ble_eq_true rfl) w238839 g3 sh_27 (by decide) rfl (by decide) (u_14  w238839 g3) (fun R238842 T238843 H238844 p238845 => ?_))
  obtain ⟨e238846, w238848, f238849, e238847, p238850⟩ := p238845
  subst e238846
  subst e238847
  have f238852 := f238840.tr f238849 rfl
  show wp _ _ 13 14 [(0, .ref r0), (1, .ref r1), (2, vI a2), (3, .ref r3)] [] _ H238844 _
  have u238853 := DC_k p238850
  refine wp_of e13 c13_14 (rw_aload_n (pc' := 15) (v := .ref r0) rfl rfl rfl ?_)
  have k238854 : H238844 r0 0 = H r0 0 := ((f238849 r0 0 _ g0 rfl).trans ((wq_u_j e238838 rfl).trans (wq_u_j e238833 rfl)))
  have q238855 : H238844 r0 0 = (tk : Int) := k238854.trans qtk
  refine wp_of e13 c13_15 (xg_K (pc' := 18) lf_1_12 w238848 g0 sh_3 (by decide) (by decide) rfl q238855 rfl ?_)
  refine wp_of e13 c13_18 (rw_aload_n (pc' := 19) (v := .ref r1) rfl rfl rfl ?_)
  refine wp_of e13 c13_19 (rw_iload_n (pc' := 20) (z := a2) rfl rfl ?_)
  have h238856 : TP T H238844 r1 B := (TP_fr w238839 g1 f238849 rfl (TP_fr w238834 g1 ((wfr.rf (l := [(3, 4)])).put' e238838 g0 rfl) rfl (TP_fr hW g1 ((wfr.rf (l := [(3, 3)])).put' e238833 g0 rfl) rfl hTP_r1)))
  refine wp_of e13 c13_20 (xc_V (pc' := 23) (r := tk) (as := [.ref r1, vI a2]) (st := []) (lm_1_30) rfl rfl (Nat.le_of_ble_eq_true rfl) w238848 gtk sh_4 (by decide) rfl (by decide) (u_15 (B := B) w238848 gtk g1 ⟨by omega, by omega⟩ h238856) (fun R238857 T238858 H238859 p238860 => ?_))
  obtain ⟨e238861, w238863, f238864, e238862, p238865⟩ := p238860
  subst e238861
  subst e238862
  obtain ⟨a238866, a238867⟩ := p238865
  have f238868 := f238852.tr f238864 rfl
  show wp _ _ 13 23 [(0, .ref r0), (1, .ref r1), (2, vI a2), (3, .ref r3)] [] _ H238859 _
  have u238869 := TC_k a238867
  refine wp_of e13 c13_23 (rw_iconst (pc' := 24) rfl ?_)
  refine wp_of e13 c13_24 (rw_istore (pc' := 26) (z := 0) (L' := [(4, vI 0), (0, .ref r0), (1, .ref r1), (2, vI a2), (3, .ref r3)]) rfl rfl rfl ?_)
  have lp239358 : ∀ (n239359 : Nat) (v239361 : Int) (H239362 : wq_H) (q239363 : Int) (d239364 : xD), WT T H239362 → wfr [(27, 7), (27, 8), (27, 9), (27, 10), (27, 11), (27, 12), (27, 13), (27, 14), (27, 15), (27, 16), (35, 6), (35, 7), (35, 8), (35, 9), (35, 10), (35, 11), (35, 12), (35, 13), (35, 14), (35, 15), (35, 16), (35, 17), (3, 1), (3, 2), (3, 3), (3, 4), (4, 2), (4, 3), (4, 4), (4, 5), (4, 6), (31, 999), (34, 999), (29, 999), (30, 999), (33, 999), (32, 999)] T H238859 H239362 → (0 ≤ v239361 ∧ v239361 ≤ 901) → TC T H239362 tk B a2 q239363 → DC T H239362 r3 d239364 → (v239361 ≤ q239363) → (xpf B a2 (902 - v239361).toNat q239363 d239364 = xparse B a2) → (901 - v239361).toNat = n239359 → wp kt 6 13 26 [(4, vI v239361), (0, .ref r0), (3, .ref r3)] [] T H239362 (uq_13 r0 r1 a2 r3 tk B T H) := by
    intro n239359
    induction n239359 using Nat.strongRecOn with
    | _ n239359 ih239360 =>
      intro v239361 H239362 q239363 d239364 w239365 f239366 b239367 h239369 h239370 x239371 x239372 m239368
      have f239373 := f238868.tr f239366 rfl
      have u239374 := TC_k h239369
      have u239375 := DC_k h239370
      refine wp_of e13 c13_26 (rw_iload (pc' := 28) (z := v239361) rfl rfl ?_)
      refine wp_of e13 c13_28 (rw_sipush (pc' := 31) (z := 900) rfl (by decide) ?_)
      refine wp_of e13 c13_31 (rw_icmp_gt (p1 := 99) (p2 := 34) (by decide) rfl ⟨by omega, by omega⟩ ⟨by omega, by omega⟩ (fun c239376 => ?_) (fun c239376 => ?_))
      · exfalso
        omega
      · refine wp_of e13 c13_34 (rw_aload_n (pc' := 35) (v := .ref r0) rfl rfl rfl ?_)
        refine wp_of e13 c13_35 (rw_aload_n (pc' := 36) (v := .ref r3) rfl rfl rfl ?_)
        have k239377 : H239362 r0 0 = H238844 r0 0 := ((f239366 r0 0 _ g0 rfl).trans (f238864 r0 0 _ g0 rfl))
        have q239378 : H239362 r0 0 = (tk : Int) := k239377.trans q238855
        have k239379 : H239362 tk 0 = H238859 tk 0 := (f239366 tk 0 _ gtk rfl)
        have q239380 : H239362 tk 0 = (r1 : Int) := k239379.trans a238866
        have h239381 : DD T H239362 r3  := (DD_fr w238863 g3 f239366 rfl (DD_fr w238848 g3 f238864 rfl (DD_fr w238839 g3 f238849 rfl (DD_fr w238834 g3 ((wfr.rf (l := [(3, 4)])).put' e238838 g0 rfl) rfl (DD_fr hW g3 ((wfr.rf (l := [(3, 3)])).put' e238833 g0 rfl) rfl hDD_r3)))))
        refine wp_of e13 c13_36 (xc_V (pc' := 39) (r := r0) (as := [.ref r3]) (st := []) (lm_1_34) rfl rfl (Nat.le_of_ble_eq_true rfl) w239365 g0 sh_3 (by decide) rfl (by decide) (u_17 (B := B) (n := a2) (q := q239363) (d := d239364) w239365 g0 g3 q239378 gtk q239380 g1 h239369 h239370 h239381) (fun R239382 T239383 H239384 p239385 => ?_))
        obtain ⟨e239386, w239388, f239389, z239390, e239387, b239391, p239392⟩ := p239385
        subst e239386
        subst e239387
        rcases p239392 with ⟨a239393, a239394, a239395, a239396, a239397⟩ | ⟨a239398, a239399, a239400, a239401, a239402⟩
        · have f239403 := f239373.tr f239389 rfl
          have f239404 := f239366.tr f239389 rfl
          show wp _ _ 13 39 [(4, vI v239361), (0, .ref r0), (3, .ref r3)] [vI z239390] _ H239384 _
          have u239405 := TC_k a239396
          have u239406 := DC_k a239397
          refine wp_of e13 c13_39 (rw_if_ne (p1 := 44) (p2 := 42) (by decide) rfl ⟨by omega, by omega⟩ (fun c239407 => ?_) (fun c239407 => ?_))
          · refine wp_of e13 c13_44 (rw_aload_n (pc' := 45) (v := .ref r0) rfl rfl rfl ?_)
            have k239408 : H239384 r0 0 = H239362 r0 0 := (f239389 r0 0 _ g0 rfl)
            have q239409 : H239384 r0 0 = (tk : Int) := k239408.trans q239378
            refine wp_of e13 c13_45 (xg_K (pc' := 48) lf_1_12 w239388 g0 sh_3 (by decide) (by decide) rfl q239409 rfl ?_)
            refine wp_of e13 c13_48 (xg_I (pc' := 51) lf_1_38 w239388 gtk sh_4 (by decide) (by decide) ty_4_3 rfl rfl (fun b239410 b239411 => ?_))
            refine wp_of e13 c13_51 (rw_if_ne (p1 := 83) (p2 := 54) (by decide) rfl ⟨by omega, by omega⟩ (fun c239412 => ?_) (fun c239412 => ?_))
            · have _e := TC_e a239396
              refine wp_of e13 c13_83 (rw_aload_n (pc' := 84) (v := .ref r0) rfl rfl rfl ?_)
              refine wp_of e13 c13_84 (rw_iconst (pc' := 85) rfl ?_)
              have k239413 : H239384 tk 0 = H239362 tk 0 := (f239389 tk 0 _ gtk rfl)
              have q239414 : H239384 tk 0 = (r1 : Int) := k239413.trans q239380
              refine wp_of e13 c13_85 (xc_V (pc' := 88) (r := r0) (as := [vI 3]) (st := []) (lm_1_51) rfl rfl (Nat.le_of_ble_eq_true rfl) w239388 g0 sh_3 (by decide) rfl (by decide) (u_35 (B := B) (n := a2) (q := ((xline B a2 q239363 d239364).2.2)) w239388 g0 ⟨by omega, by omega⟩ q239409 gtk q239414 g1 a239396) (fun R239415 T239416 H239417 p239418 => ?_))
              obtain ⟨e239419, w239421, f239422, z239423, e239420, b239424, p239425⟩ := p239418
              subst e239419
              subst e239420
              rcases p239425 with ⟨a239426, a239427, a239428, a239429⟩ | ⟨a239430, a239431, a239432, a239433, a239434⟩
              · have f239435 := f239403.tr f239422 rfl
                have f239436 := f239404.tr f239422 rfl
                show wp _ _ 13 88 [(4, vI v239361), (0, .ref r0), (3, .ref r3)] [vI z239423] _ H239417 _
                have u239437 := TC_k a239429
                refine wp_of e13 c13_88 (rw_if_ne (p1 := 93) (p2 := 91) (by decide) rfl ⟨by omega, by omega⟩ (fun c239438 => ?_) (fun c239438 => ?_))
                · refine wp_of e13 c13_93 (rw_iinc (pc' := 96) (z := v239361) (L' := [(4, vI (v239361 + 1)), (0, .ref r0), (3, .ref r3)]) rfl rfl rfl rfl ?_)
                  refine wp_of e13 c13_96 (rw_goto (p1 := 26) (by decide) ?_)
                  have h239439 : DC T H239417 r3 (xdline B a2 q239363 d239364) := (DC_fr w239388 g3 f239422 rfl a239397)
                  exact wp_lc (ks := [4, 0, 3]) (wl_c rfl (wl_c rfl (wl_c rfl wl_n))) rfl (by decide) (ih239360 _ (by omega) (v239361 + 1) H239417 ((xN B a2 ((xline B a2 q239363 d239364).2.2))) (xdline B a2 q239363 d239364) w239421 f239436 ⟨by omega, by omega⟩ a239429 h239439 (by omega) (by rw [← (‹xpf B a2 (902 - v239361).toNat q239363 d239364 = xparse B a2›), xpf_e (v := v239361) (q := q239363) (d := d239364) (by omega), if_pos (by omega), if_neg (by omega), if_pos (by omega)]) rfl)
                · exfalso
                  omega
              · have f239440 := f239403.tr f239422 rfl
                have f239441 := f239404.tr f239422 rfl
                show wp _ _ 13 88 [(4, vI v239361), (0, .ref r0), (3, .ref r3)] [vI z239423] _ H239417 _
                refine wp_of e13 c13_88 (rw_if_ne (p1 := 93) (p2 := 91) (by decide) rfl ⟨by omega, by omega⟩ (fun c239442 => ?_) (fun c239442 => ?_))
                · exfalso
                  omega
                · refine wp_of e13 c13_91 (rw_iconst (pc' := 92) rfl ?_)
                  have o239443 : ((xparse B a2).1) = (1, ((xline B a2 q239363 d239364).2.2), q239363) := by
                    rw [← (‹xpf B a2 (902 - v239361).toNat q239363 d239364 = xparse B a2›), xpf_e (by omega)]
                    repeat first | rw [xs_0 (by omega)] | rw [xs_1 (by omega)] | rw [if_pos (by omega)] | rw [if_neg (by omega)]
                    first | done | rfl | assumption | (exfalso; omega) | (refine Prod.ext ?_ (Prod.ext ?_ ?_) <;> (try dsimp only) <;> omega)
                  have o239443a : (((xparse B a2).1)).1 = 1 := by rw [o239443]
                  have o239443b : (((xparse B a2).1)).2.1 = ((xline B a2 q239363 d239364).2.2) := by rw [o239443]
                  have o239443c : (((xparse B a2).1)).2.2 = q239363 := by rw [o239443]
                  exact wp_zreturn e13 c13_92 rfl (by omega) ⟨rfl, w239421, f239440, 0, rfl, ⟨by omega, by omega⟩, (Or.inr ⟨by omega, by omega, by omega, by omega⟩)⟩
            · refine wp_of e13 c13_54 (rw_aload_n (pc' := 55) (v := .ref r3) rfl rfl rfl ?_)
              refine wp_of e13 c13_55 (xg_I (pc' := 58) lf_1_41 w239388 g3 sh_27 (by decide) (by decide) ty_27_7 rfl rfl (fun b239444 b239445 => ?_))
              refine wp_of e13 c13_58 (rw_if_le (p1 := 68) (p2 := 61) (by decide) rfl ⟨by omega, by omega⟩ (fun c239446 => ?_) (fun c239446 => ?_))
              · refine wp_of e13 c13_68 (rw_aload_n (pc' := 69) (v := .ref r0) rfl rfl rfl ?_)
                refine wp_of e13 c13_69 (rw_bipush (pc' := 71) (z := 6) rfl (by decide) ?_)
                refine wp_of e13 c13_71 (xc_V (pc' := 74) (r := r0) (as := [vI 6]) (st := []) (lm_1_47) rfl rfl (Nat.le_of_ble_eq_true rfl) w239388 g0 sh_3 (by decide) rfl (by decide) (u_20  w239388 g0 ⟨by omega, by omega⟩ q239409 gtk) (fun R239447 T239448 H239449 p239450 => ?_))
                obtain ⟨e239451, w239453, f239454, z239455, e239452, b239456, p239457⟩ := p239450
                subst e239451
                subst e239452
                obtain ⟨a239458, a239459, a239460⟩ := p239457
                have f239461 := f239403.tr f239454 rfl
                show wp _ _ 13 74 [(4, vI v239361), (0, .ref r0), (3, .ref r3)] [vI z239455] _ H239449 _
                refine wp_of e13 c13_74 (rw_if_eq (p1 := 81) (p2 := 77) (by decide) rfl ⟨by omega, by omega⟩ (fun c239462 => ?_) (fun c239462 => ?_))
                · refine wp_of e13 c13_81 (rw_iconst (pc' := 82) rfl ?_)
                  have o239463 : ((xparse B a2).1) = (6, ((xline B a2 q239363 d239364).2.2), q239363) := by
                    rw [← (‹xpf B a2 (902 - v239361).toNat q239363 d239364 = xparse B a2›), xpf_e (by omega)]
                    repeat first | rw [xs_0 (by omega)] | rw [xs_1 (by omega)] | rw [if_pos (by omega)] | rw [if_neg (by omega)]
                    first | done | rfl | assumption | (exfalso; omega) | (refine Prod.ext ?_ (Prod.ext ?_ ?_) <;> (try dsimp only) <;> omega)
                  have o239463a : (((xparse B a2).1)).1 = 6 := by rw [o239463]
                  have o239463b : (((xparse B a2).1)).2.1 = ((xline B a2 q239363 d239364).2.2) := by rw [o239463]
                  have o239463c : (((xparse B a2).1)).2.2 = q239363 := by rw [o239463]
                  exact wp_zreturn e13 c13_82 rfl (by omega) ⟨rfl, w239453, f239461, 0, rfl, ⟨by omega, by omega⟩, (Or.inr ⟨by omega, by omega, by omega, by omega⟩)⟩
                · exfalso
                  omega
              · refine wp_of e13 c13_61 (rw_aload_n (pc' := 62) (v := .ref r3) rfl rfl rfl ?_)
                refine wp_of e13 c13_62 (xg_I (pc' := 65) lf_1_44 w239388 g3 sh_27 (by decide) (by decide) ty_27_10 rfl rfl (fun b239464 b239465 => ?_))
                refine wp_of e13 c13_65 (rw_if_gt (p1 := 77) (p2 := 68) (by decide) rfl ⟨by omega, by omega⟩ (fun c239466 => ?_) (fun c239466 => ?_))
                · refine wp_of e13 c13_77 (rw_iconst (pc' := 78) rfl ?_)
                  refine wp_of e13 c13_78 (rw_goto (p1 := 82) (by decide) ?_)
                  have o239467 : ((xparse B a2).1) = (0, q239363, q239363) := by
                    rw [← (‹xpf B a2 (902 - v239361).toNat q239363 d239364 = xparse B a2›), xpf_e (by omega)]
                    repeat first | rw [xs_0 (by omega)] | rw [xs_1 (by omega)] | rw [if_pos (by omega)] | rw [if_neg (by omega)]
                    first | done | rfl | assumption | (exfalso; omega) | (refine Prod.ext ?_ (Prod.ext ?_ ?_) <;> (try dsimp only) <;> omega)
                  have o239467a : (((xparse B a2).1)).1 = 0 := by rw [o239467]
                  have o239467b : (((xparse B a2).1)).2.1 = q239363 := by rw [o239467]
                  have o239467c : (((xparse B a2).1)).2.2 = q239363 := by rw [o239467]
                  exact wp_zreturn e13 c13_82 rfl (by omega) ⟨rfl, w239388, f239403, 1, rfl, ⟨by omega, by omega⟩, (Or.inl ⟨by omega, by omega, by rw [← (‹xpf B a2 (902 - v239361).toNat q239363 d239364 = xparse B a2›), xpf_e (by omega), if_pos (by omega), if_pos (by omega), if_pos (by omega)]; exact a239397⟩)⟩
                · refine wp_of e13 c13_68 (rw_aload_n (pc' := 69) (v := .ref r0) rfl rfl rfl ?_)
                  refine wp_of e13 c13_69 (rw_bipush (pc' := 71) (z := 6) rfl (by decide) ?_)
                  refine wp_of e13 c13_71 (xc_V (pc' := 74) (r := r0) (as := [vI 6]) (st := []) (lm_1_47) rfl rfl (Nat.le_of_ble_eq_true rfl) w239388 g0 sh_3 (by decide) rfl (by decide) (u_20  w239388 g0 ⟨by omega, by omega⟩ q239409 gtk) (fun R239468 T239469 H239470 p239471 => ?_))
                  obtain ⟨e239472, w239474, f239475, z239476, e239473, b239477, p239478⟩ := p239471
                  subst e239472
                  subst e239473
                  obtain ⟨a239479, a239480, a239481⟩ := p239478
                  have f239482 := f239403.tr f239475 rfl
                  show wp _ _ 13 74 [(4, vI v239361), (0, .ref r0), (3, .ref r3)] [vI z239476] _ H239470 _
                  refine wp_of e13 c13_74 (rw_if_eq (p1 := 81) (p2 := 77) (by decide) rfl ⟨by omega, by omega⟩ (fun c239483 => ?_) (fun c239483 => ?_))
                  · refine wp_of e13 c13_81 (rw_iconst (pc' := 82) rfl ?_)
                    have o239484 : ((xparse B a2).1) = (6, ((xline B a2 q239363 d239364).2.2), q239363) := by
                      rw [← (‹xpf B a2 (902 - v239361).toNat q239363 d239364 = xparse B a2›), xpf_e (by omega)]
                      repeat first | rw [xs_0 (by omega)] | rw [xs_1 (by omega)] | rw [if_pos (by omega)] | rw [if_neg (by omega)]
                      first | done | rfl | assumption | (exfalso; omega) | (refine Prod.ext ?_ (Prod.ext ?_ ?_) <;> (try dsimp only) <;> omega)
                    have o239484a : (((xparse B a2).1)).1 = 6 := by rw [o239484]
                    have o239484b : (((xparse B a2).1)).2.1 = ((xline B a2 q239363 d239364).2.2) := by rw [o239484]
                    have o239484c : (((xparse B a2).1)).2.2 = q239363 := by rw [o239484]
                    exact wp_zreturn e13 c13_82 rfl (by omega) ⟨rfl, w239474, f239482, 0, rfl, ⟨by omega, by omega⟩, (Or.inr ⟨by omega, by omega, by omega, by omega⟩)⟩
                  · exfalso
                    omega
          · exfalso
            omega
        · have f239485 := f239373.tr f239389 rfl
          have f239486 := f239366.tr f239389 rfl
          show wp _ _ 13 39 [(4, vI v239361), (0, .ref r0), (3, .ref r3)] [vI z239390] _ H239384 _
          refine wp_of e13 c13_39 (rw_if_ne (p1 := 44) (p2 := 42) (by decide) rfl ⟨by omega, by omega⟩ (fun c239487 => ?_) (fun c239487 => ?_))
          · exfalso
            omega
          · refine wp_of e13 c13_42 (rw_iconst (pc' := 43) rfl ?_)
            have o239488 : ((xparse B a2).1) = ((xline B a2 q239363 d239364).1, (xline B a2 q239363 d239364).2.1, (xline B a2 q239363 d239364).2.2) := by
              rw [← (‹xpf B a2 (902 - v239361).toNat q239363 d239364 = xparse B a2›), xpf_e (by omega)]
              repeat first | rw [xs_0 (by omega)] | rw [xs_1 (by omega)] | rw [if_pos (by omega)] | rw [if_neg (by omega)]
              first | done | rfl | assumption | (exfalso; omega) | (refine Prod.ext ?_ (Prod.ext ?_ ?_) <;> (try dsimp only) <;> omega)
            have o239488a : (((xparse B a2).1)).1 = (xline B a2 q239363 d239364).1 := by rw [o239488]
            have o239488b : (((xparse B a2).1)).2.1 = (xline B a2 q239363 d239364).2.1 := by rw [o239488]
            have o239488c : (((xparse B a2).1)).2.2 = (xline B a2 q239363 d239364).2.2 := by rw [o239488]
            exact wp_zreturn e13 c13_43 rfl (by omega) ⟨rfl, w239388, f239485, 0, rfl, ⟨by omega, by omega⟩, (Or.inr ⟨by omega, by omega, by omega, by omega⟩)⟩
  have h239489 : DC T H238859 r3 xD0 := (DC_fr w238848 g3 f238864 rfl p238850)
  exact wp_lc (ks := [4, 0, 1, 2, 3]) (wl_c rfl (wl_c rfl (wl_c rfl wl_n))) rfl (by decide) (lp239358 _ 0 H238859 (xG 32 32 B a2 0) xD0 w238863 wfr.rf ⟨by omega, by omega⟩ a238867 h239489 (by omega) (rfl) rfl)
/-! StrikeAwake.putOnTape(I)V  -/
abbrev uq_10 (r0 : Nat) (a1 : Int) (tp : Nat) (B : Nat → Int) (t : Int) (T : wq_T) (H : wq_H) : Option Value → wq_T → wq_H → Prop := fun r T' H' => T = T' ∧ WT T H' ∧ wfr [(1, 9), (2, 999)] T H H' ∧ none = r ∧ (((H' r0 9 = t + 4) ∧ TP T H' tp (xpk B t a1 4)))
set_option maxHeartbeats 4000000 in
theorem u_10 {kt : Nat → Option mc_E} {T : wq_T} {H : wq_H} {r0 : Nat} {a1 : Int} {tp : Nat} {B : Nat → Int} {t : Int} (hW : WT T H) (g0 : T.2.2.2 r0 = some 1) (i1 : (-2147483648) ≤ a1 ∧ a1 ≤ 2147483647) (qtp : H r0 0 = (tp : Int)) (gtp : T.2.2.2 tp = some 2) (p0 : H r0 9 = t) (p1 : t ≤ 896) (hTP_tp : TP T H tp B) : wpc kt 1 10 [.ref r0, vI a1] T H (uq_10 r0 a1 tp B t T H) := by
  refine wp_enter e10 (Nat.le_of_ble_eq_true rfl) rfl ?_
  have f0 : wfr [(1, 9), (2, 999)] T H H := wfr.rf
  show wp _ _ 10 0 [(0, .ref r0), (1, vI a1)] [] _ H _
  have b268511 : 0 ≤ H r0 9 ∧ H r0 9 ≤ 900 := hW.box g0 (n := 13) rfl (by decide) rfl
  refine wp_of e10 c10_0 (rw_bipush (pc' := 2) (z := 24) rfl (by decide) ?_)
  refine wp_of e10 c10_2 (rw_istore_n (pc' := 3) (z := 24) (L' := [(2, vI 24), (0, .ref r0), (1, vI a1)]) rfl rfl rfl ?_)
  have lp268633 : ∀ (n268634 : Nat) (v268636 : Int) (H268637 : wq_H) (ii268638 : Nat), WT T H268637 → wfr [(1, 9), (2, 999)] T H H268637 → ((-8) ≤ v268636 ∧ v268636 ≤ 24) → TP T H268637 tp (xpk B t a1 ii268638) → (v268636 = 24 - 8 * (ii268638 : Int)) → (ii268638 ≤ 4) → (H268637 r0 9 = t + (ii268638 : Int)) → (v268636 + 8).toNat = n268634 → wp kt 0 10 3 [(2, vI v268636), (0, .ref r0), (1, vI a1)] [] T H268637 (uq_10 r0 a1 tp B t T H) := by
    intro n268634
    induction n268634 using Nat.strongRecOn with
    | _ n268634 ih268635 =>
      intro v268636 H268637 ii268638 w268639 f268640 b268641 h268643 x268644 x268645 x268646 m268642
      have f268647 := f0.tr f268640 rfl
      refine wp_of e10 c10_3 (rw_iload_n (pc' := 4) (z := v268636) rfl rfl ?_)
      refine wp_of e10 c10_4 (rw_if_lt (p1 := 46) (p2 := 7) (by decide) rfl ⟨by omega, by omega⟩ (fun c268648 => ?_) (fun c268648 => ?_))
      · exact wp_return e10 c10_46 rfl ⟨rfl, w268639, f268647, rfl, ⟨by omega, by
          have e4 : ii268638 = 4 := by omega
          rw [← e4]
          exact h268643⟩⟩
      · refine wp_of e10 c10_7 (rw_aload_n (pc' := 8) (v := .ref r0) rfl rfl rfl ?_)
        refine wp_of e10 c10_8 (xg_I (pc' := 11) lf_0_62 w268639 g0 sh_1 (by decide) (by decide) ty_1_9 rfl rfl (fun b268649 b268650 => ?_))
        refine wp_of e10 c10_11 (rw_sipush (pc' := 14) (z := 900) rfl (by decide) ?_)
        refine wp_of e10 c10_14 (rw_icmp_ge (p1 := 46) (p2 := 17) (by decide) rfl ⟨by omega, by omega⟩ ⟨by omega, by omega⟩ (fun c268651 => ?_) (fun c268651 => ?_))
        · exact wp_return e10 c10_46 rfl ⟨rfl, w268639, f268647, rfl, ⟨by omega, by
            have e4 : ii268638 = 4 := by omega
            rw [← e4]
            exact h268643⟩⟩
        · refine wp_of e10 c10_17 (rw_aload_n (pc' := 18) (v := .ref r0) rfl rfl rfl ?_)
          have k268652 : H268637 r0 0 = H r0 0 := (f268640 r0 0 _ g0 rfl)
          have q268653 : H268637 r0 0 = (tp : Int) := k268652.trans qtp
          refine wp_of e10 c10_18 (xg_K (pc' := 21) lf_0_9 w268639 g0 sh_1 (by decide) (by decide) rfl q268653 rfl ?_)
          refine wp_of e10 c10_21 (rw_aload_n (pc' := 22) (v := .ref r0) rfl rfl rfl ?_)
          refine wp_of e10 c10_22 (xg_I (pc' := 25) lf_0_62 w268639 g0 sh_1 (by decide) (by decide) ty_1_9 rfl rfl (fun b268654 b268655 => ?_))
          refine wp_of e10 c10_25 (rw_iload_n (pc' := 26) (z := a1) rfl rfl ?_)
          refine wp_of e10 c10_26 (rw_iload_n (pc' := 27) (z := v268636) rfl rfl ?_)
          refine wp_of e10 c10_27 (rw_ishr (pc' := 28) rfl ?_)
          obtain ⟨v268656, e268657⟩ : ∃ x : Int, x = wq_shr a1 v268636 := ⟨_, rfl⟩
          rw [← e268657]
          have b268658 : -2147483648 ≤ v268656 ∧ v268656 ≤ 2147483647 := by
            rw [e268657]
            exact wI_shr _ _
          refine wp_of e10 c10_28 (rw_i2b (pc' := 29) rfl ?_)
          obtain ⟨v268659, e268660⟩ : ∃ x : Int, x = wq_i2b v268656 := ⟨_, rfl⟩
          rw [← e268660]
          have b268661 : -128 ≤ v268659 ∧ v268659 ≤ 127 := by
            rw [e268660]
            exact wq_i2b_b _
          have o268662 : v268659 = wq_i2b (wq_shr a1 v268636) := by
            subst_vars
            rfl
          refine wp_of e10 c10_29 (xs_B (pc' := 30) w268639 gtp (by decide) sh_2 (by decide) (ty_2 _) (by omega) (by omega) ⟨by omega, by omega⟩ (by omega) (by omega) rfl (fun H268663 e268664 w268665 => ?_))
          have f268666 := f268647.put' e268664 gtp rfl
          have f268667 := f268640.put' e268664 gtp rfl
          have h268668 : TP T H268663 tp (xpk B t a1 (ii268638 + 1)) := TP_pk h268643 e268664 (by omega) o268662 (by omega)
          refine wp_of e10 c10_30 (rw_aload_n (pc' := 31) (v := .ref r0) rfl rfl rfl ?_)
          refine wp_of e10 c10_31 (rw_dup (pc' := 32) rfl rfl ?_)
          have k268669 : H268663 r0 9 = H268637 r0 9 := (wq_u_t e268664 gtp g0 rfl 9)
          refine wp_of e10 c10_32 (xg_I (pc' := 35) lf_0_62 w268665 g0 sh_1 (by decide) (by decide) ty_1_9 rfl rfl (fun b268670 b268671 => ?_))
          refine wp_of e10 c10_35 (rw_iconst (pc' := 36) rfl ?_)
          refine wp_of e10 c10_36 (rw_iadd (pc' := 37) rfl ?_)
          refine wp_of e10 c10_37 (xp_I (pc' := 40) lf_0_62 w268665 g0 sh_1 (by decide) (by decide) ty_1_9 rfl rfl (by omega) (by omega) ⟨by omega, by omega⟩ rfl (fun H268672 e268673 w268674 => ?_))
          have f268675 := f268666.put' e268673 g0 rfl
          have f268676 := f268667.put' e268673 g0 rfl
          have k268677 : H268672 r0 9 = (H268663 r0 9) + 1 := wq_u_s e268673
          refine wp_of e10 c10_40 (rw_iinc (pc' := 43) (z := v268636) (L' := [(2, vI (v268636 + (-8))), (0, .ref r0), (1, vI a1)]) rfl rfl rfl rfl ?_)
          refine wp_of e10 c10_43 (rw_goto (p1 := 3) (by decide) ?_)
          have h268678 : TP T H268672 tp (xpk B t a1 (ii268638 + 1)) := (TP_fr w268665 gtp ((wfr.rf (l := [(1, 9)])).put' e268673 g0 rfl) rfl h268668)
          exact wp_lc (ks := [2, 0, 1]) (wl_c rfl (wl_c rfl (wl_c rfl wl_n))) rfl (by decide) (ih268635 _ (by omega) (v268636 + (-8)) H268672 ((ii268638 + 1)) w268674 f268676 ⟨by omega, by omega⟩ h268678 (by omega) (by omega) (by omega) rfl)
  have h268679 : TP T H tp (xpk B t a1 0) := hTP_tp
  exact wp_lc (ks := [2, 0, 1]) (wl_c rfl (wl_c rfl (wl_c rfl wl_n))) rfl (by decide) (lp268633 _ 24 H 0 hW wfr.rf ⟨by omega, by omega⟩ h268679 (by omega) (by omega) (by omega) rfl)
/-! StrikeAwake.feed(IIIII)I  -/
abbrev uq_9 (r0 : Nat) (a1 : Int) (a2 : Int) (a3 : Int) (a4 : Int) (a5 : Int) (tp : Nat) (B : Nat → Int) (t : Int) (b1 : Int) (b2 : Int) (b3 : Int) (b4 : Int) (b5 : Int) (T : wq_T) (H : wq_H) : Option Value → wq_T → wq_H → Prop := fun r T' H' => T = T' ∧ WT T H' ∧ wfr [(1, 9), (2, 999)] T H H' ∧ ∃ z : Int, some (vI z) = r ∧ ((-2147483648) ≤ z ∧ z ≤ 2147483647) ∧ (((z = -1) ∧ (880 < t) ∧ (H' r0 9 = t) ∧ TP T H' tp B) ∨ ((0 ≤ z ∧ z ≤ 900) ∧ (t ≤ 880) ∧ (z = t + 20) ∧ (H' r0 9 = t + 20) ∧ TP T H' tp (xfk B t b1 b2 b3 b4 b5 20)))
set_option maxHeartbeats 4000000 in
theorem u_9 {kt : Nat → Option mc_E} {T : wq_T} {H : wq_H} {r0 : Nat} {a1 : Int} {a2 : Int} {a3 : Int} {a4 : Int} {a5 : Int} {tp : Nat} {B : Nat → Int} {t : Int} {b1 : Int} {b2 : Int} {b3 : Int} {b4 : Int} {b5 : Int} (hW : WT T H) (g0 : T.2.2.2 r0 = some 1) (i1 : (-2147483648) ≤ a1 ∧ a1 ≤ 2147483647) (i2 : (-2147483648) ≤ a2 ∧ a2 ≤ 2147483647) (i3 : (-2147483648) ≤ a3 ∧ a3 ≤ 2147483647) (i4 : (-2147483648) ≤ a4 ∧ a4 ≤ 2147483647) (i5 : (-2147483648) ≤ a5 ∧ a5 ≤ 2147483647) (qtp : H r0 0 = (tp : Int)) (gtp : T.2.2.2 tp = some 2) (p0 : H r0 9 = t) (p1 : a1 = b1) (p2 : a2 = b2) (p3 : a3 = b3) (p4 : a4 = b4) (p5 : a5 = b5) (hTP_tp : TP T H tp B) : wpc kt 2 9 [.ref r0, vI a1, vI a2, vI a3, vI a4, vI a5] T H (uq_9 r0 a1 a2 a3 a4 a5 tp B t b1 b2 b3 b4 b5 T H) := by
  refine wp_enter e9 (Nat.le_of_ble_eq_true rfl) rfl ?_
  have f0 : wfr [(1, 9), (2, 999)] T H H := wfr.rf
  show wp _ _ 9 0 [(0, .ref r0), (1, vI a1), (2, vI a2), (3, vI a3), (4, vI a4), (5, vI a5)] [] _ H _
  have b268753 : 0 ≤ H r0 9 ∧ H r0 9 ≤ 900 := hW.box g0 (n := 13) rfl (by decide) rfl
  refine wp_of e9 c9_0 (rw_aload_n (pc' := 1) (v := .ref r0) rfl rfl rfl ?_)
  refine wp_of e9 c9_1 (xg_I (pc' := 4) lf_0_62 hW g0 sh_1 (by decide) (by decide) ty_1_9 rfl rfl (fun b268754 b268755 => ?_))
  refine wp_of e9 c9_4 (rw_sipush (pc' := 7) (z := 880) rfl (by decide) ?_)
  refine wp_of e9 c9_7 (rw_icmp_le (p1 := 12) (p2 := 10) (by decide) rfl ⟨by omega, by omega⟩ ⟨by omega, by omega⟩ (fun c268756 => ?_) (fun c268756 => ?_))
  · refine wp_of e9 c9_12 (rw_aload_n (pc' := 13) (v := .ref r0) rfl rfl rfl ?_)
    refine wp_of e9 c9_13 (rw_iload_n (pc' := 14) (z := a1) rfl rfl ?_)
    refine wp_of e9 c9_14 (xc_V (pc' := 17) (r := r0) (as := [vI a1]) (st := []) (lm_0_66) rfl rfl (Nat.le_of_ble_eq_true rfl) hW g0 sh_1 (by decide) rfl (by decide) (u_10 (B := B) (t := t) hW g0 ⟨by omega, by omega⟩ qtp gtp (by omega) (by omega) hTP_tp) (fun R268757 T268758 H268759 p268760 => ?_))
    obtain ⟨e268761, w268763, f268764, e268762, p268765⟩ := p268760
    subst e268761
    subst e268762
    obtain ⟨a268766, a268767⟩ := p268765
    have f268768 := f0.tr f268764 rfl
    show wp _ _ 9 17 [(0, .ref r0), (1, vI a1), (2, vI a2), (3, vI a3), (4, vI a4), (5, vI a5)] [] _ H268759 _
    refine wp_of e9 c9_17 (rw_aload_n (pc' := 18) (v := .ref r0) rfl rfl rfl ?_)
    refine wp_of e9 c9_18 (rw_iload_n (pc' := 19) (z := a2) rfl rfl ?_)
    have k268769 : H268759 r0 0 = H r0 0 := (f268764 r0 0 _ g0 rfl)
    have q268770 : H268759 r0 0 = (tp : Int) := k268769.trans qtp
    refine wp_of e9 c9_19 (xc_V (pc' := 22) (r := r0) (as := [vI a2]) (st := []) (lm_0_66) rfl rfl (Nat.le_of_ble_eq_true rfl) w268763 g0 sh_1 (by decide) rfl (by decide) (u_10 (B := (xpk B t a1 4)) (t := (t + 4)) w268763 g0 ⟨by omega, by omega⟩ q268770 gtp (by omega) (by omega) a268767) (fun R268771 T268772 H268773 p268774 => ?_))
    obtain ⟨e268775, w268777, f268778, e268776, p268779⟩ := p268774
    subst e268775
    subst e268776
    obtain ⟨a268780, a268781⟩ := p268779
    have f268782 := f268768.tr f268778 rfl
    show wp _ _ 9 22 [(0, .ref r0), (1, vI a1), (2, vI a2), (3, vI a3), (4, vI a4), (5, vI a5)] [] _ H268773 _
    refine wp_of e9 c9_22 (rw_aload_n (pc' := 23) (v := .ref r0) rfl rfl rfl ?_)
    refine wp_of e9 c9_23 (rw_iload_n (pc' := 24) (z := a3) rfl rfl ?_)
    have k268783 : H268773 r0 0 = H268759 r0 0 := (f268778 r0 0 _ g0 rfl)
    have q268784 : H268773 r0 0 = (tp : Int) := k268783.trans q268770
    refine wp_of e9 c9_24 (xc_V (pc' := 27) (r := r0) (as := [vI a3]) (st := []) (lm_0_66) rfl rfl (Nat.le_of_ble_eq_true rfl) w268777 g0 sh_1 (by decide) rfl (by decide) (u_10 (B := (xpk (xpk B t a1 4) (t + 4) a2 4)) (t := (t + 8)) w268777 g0 ⟨by omega, by omega⟩ q268784 gtp (by omega) (by omega) a268781) (fun R268785 T268786 H268787 p268788 => ?_))
    obtain ⟨e268789, w268791, f268792, e268790, p268793⟩ := p268788
    subst e268789
    subst e268790
    obtain ⟨a268794, a268795⟩ := p268793
    have f268796 := f268782.tr f268792 rfl
    show wp _ _ 9 27 [(0, .ref r0), (1, vI a1), (2, vI a2), (3, vI a3), (4, vI a4), (5, vI a5)] [] _ H268787 _
    refine wp_of e9 c9_27 (rw_aload_n (pc' := 28) (v := .ref r0) rfl rfl rfl ?_)
    refine wp_of e9 c9_28 (rw_iload (pc' := 30) (z := a4) rfl rfl ?_)
    have k268797 : H268787 r0 0 = H268773 r0 0 := (f268792 r0 0 _ g0 rfl)
    have q268798 : H268787 r0 0 = (tp : Int) := k268797.trans q268784
    refine wp_of e9 c9_30 (xc_V (pc' := 33) (r := r0) (as := [vI a4]) (st := []) (lm_0_66) rfl rfl (Nat.le_of_ble_eq_true rfl) w268791 g0 sh_1 (by decide) rfl (by decide) (u_10 (B := (xpk (xpk (xpk B t a1 4) (t + 4) a2 4) (t + 8) a3 4)) (t := (t + 12)) w268791 g0 ⟨by omega, by omega⟩ q268798 gtp (by omega) (by omega) a268795) (fun R268799 T268800 H268801 p268802 => ?_))
    obtain ⟨e268803, w268805, f268806, e268804, p268807⟩ := p268802
    subst e268803
    subst e268804
    obtain ⟨a268808, a268809⟩ := p268807
    have f268810 := f268796.tr f268806 rfl
    show wp _ _ 9 33 [(0, .ref r0), (1, vI a1), (2, vI a2), (3, vI a3), (4, vI a4), (5, vI a5)] [] _ H268801 _
    refine wp_of e9 c9_33 (rw_aload_n (pc' := 34) (v := .ref r0) rfl rfl rfl ?_)
    refine wp_of e9 c9_34 (rw_iload (pc' := 36) (z := a5) rfl rfl ?_)
    have k268811 : H268801 r0 0 = H268787 r0 0 := (f268806 r0 0 _ g0 rfl)
    have q268812 : H268801 r0 0 = (tp : Int) := k268811.trans q268798
    refine wp_of e9 c9_36 (xc_V (pc' := 39) (r := r0) (as := [vI a5]) (st := []) (lm_0_66) rfl rfl (Nat.le_of_ble_eq_true rfl) w268805 g0 sh_1 (by decide) rfl (by decide) (u_10 (B := (xpk (xpk (xpk (xpk B t a1 4) (t + 4) a2 4) (t + 8) a3 4) (t + 12) a4 4)) (t := (t + 16)) w268805 g0 ⟨by omega, by omega⟩ q268812 gtp (by omega) (by omega) a268809) (fun R268813 T268814 H268815 p268816 => ?_))
    obtain ⟨e268817, w268819, f268820, e268818, p268821⟩ := p268816
    subst e268817
    subst e268818
    obtain ⟨a268822, a268823⟩ := p268821
    have f268824 := f268810.tr f268820 rfl
    show wp _ _ 9 39 [(0, .ref r0), (1, vI a1), (2, vI a2), (3, vI a3), (4, vI a4), (5, vI a5)] [] _ H268815 _
    refine wp_of e9 c9_39 (rw_aload_n (pc' := 40) (v := .ref r0) rfl rfl rfl ?_)
    refine wp_of e9 c9_40 (xg_I (pc' := 43) lf_0_62 w268819 g0 sh_1 (by decide) (by decide) ty_1_9 rfl rfl (fun b268825 b268826 => ?_))
    exact wp_ireturn e9 c9_43 rfl ⟨rfl, w268819, f268824, H268815 r0 9, rfl, ⟨by omega, by omega⟩, (Or.inr ⟨by omega, by omega, by omega, by omega, by rw [← p1, ← p2, ← p3, ← p4, ← p5, ← xfk_4]; exact a268823⟩)⟩
  · refine wp_of e9 c9_10 (rw_iconst (pc' := 11) rfl ?_)
    exact wp_ireturn e9 c9_11 rfl ⟨rfl, hW, f0, -1, rfl, ⟨by omega, by omega⟩, (Or.inl ⟨by omega, by omega, by omega, hTP_tp⟩)⟩
/-! StrikeAwake.refuse(I)I  -/
abbrev uq_12 (r0 : Nat) (a1 : Int) (T : wq_T) (H : wq_H) : Option Value → wq_T → wq_H → Prop := fun r T' H' => T = T' ∧ WT T H' ∧ wfr [(1, 10)] T H H' ∧ ∃ z : Int, some (vI z) = r ∧ ((-2147483648) ≤ z ∧ z ≤ 2147483647) ∧ (((z = -1) ∧ (H' r0 10 = a1)))
set_option maxHeartbeats 4000000 in
theorem u_12 {kt : Nat → Option mc_E} {T : wq_T} {H : wq_H} {r0 : Nat} {a1 : Int} (hW : WT T H) (g0 : T.2.2.2 r0 = some 1) (i1 : (-2147483648) ≤ a1 ∧ a1 ≤ 2147483647) : wpc kt 1 12 [.ref r0, vI a1] T H (uq_12 r0 a1 T H) := by
  refine wp_enter e12 (Nat.le_of_ble_eq_true rfl) rfl ?_
  have f0 : wfr [(1, 10)] T H H := wfr.rf
  show wp _ _ 12 0 [(0, .ref r0), (1, vI a1)] [] _ H _
  refine wp_of e12 c12_0 (rw_aload_n (pc' := 1) (v := .ref r0) rfl rfl rfl ?_)
  refine wp_of e12 c12_1 (rw_iload_n (pc' := 2) (z := a1) rfl rfl ?_)
  refine wp_of e12 c12_2 (xp_I (pc' := 5) lf_0_102 hW g0 sh_1 (by decide) (by decide) ty_1_10 rfl rfl (by omega) (by omega) ⟨by omega, by omega⟩ rfl (fun H269850 e269851 w269852 => ?_))
  have f269853 := f0.put' e269851 g0 rfl
  have k269854 : H269850 r0 10 = a1 := wq_u_s e269851
  refine wp_of e12 c12_5 (rw_iconst (pc' := 6) rfl ?_)
  exact wp_ireturn e12 c12_6 rfl ⟨rfl, w269852, f269853, -1, rfl, ⟨by omega, by omega⟩, ⟨by omega, by omega⟩⟩
/-! StrikeAwake.answer(I)I  -/
abbrev uq_51 (r0 : Nat) (a1 : Int) (T : wq_T) (H : wq_H) : Option Value → wq_T → wq_H → Prop := fun r T' H' => T = T' ∧ WT T H' ∧ wfr [(1, 10)] T H H' ∧ ∃ z : Int, some (vI z) = r ∧ ((-2147483648) ≤ z ∧ z ≤ 2147483647) ∧ (((z = a1) ∧ (H' r0 10 = 0)))
set_option maxHeartbeats 4000000 in
theorem u_51 {kt : Nat → Option mc_E} {T : wq_T} {H : wq_H} {r0 : Nat} {a1 : Int} (hW : WT T H) (g0 : T.2.2.2 r0 = some 1) (i1 : (-2147483648) ≤ a1 ∧ a1 ≤ 2147483647) : wpc kt 1 51 [.ref r0, vI a1] T H (uq_51 r0 a1 T H) := by
  refine wp_enter e51 (Nat.le_of_ble_eq_true rfl) rfl ?_
  have f0 : wfr [(1, 10)] T H H := wfr.rf
  show wp _ _ 51 0 [(0, .ref r0), (1, vI a1)] [] _ H _
  refine wp_of e51 c51_0 (rw_aload_n (pc' := 1) (v := .ref r0) rfl rfl rfl ?_)
  refine wp_of e51 c51_1 (rw_iconst (pc' := 2) rfl ?_)
  refine wp_of e51 c51_2 (xp_I (pc' := 5) lf_0_102 hW g0 sh_1 (by decide) (by decide) ty_1_10 rfl rfl (by omega) (by omega) ⟨by omega, by omega⟩ rfl (fun H269860 e269861 w269862 => ?_))
  have f269863 := f0.put' e269861 g0 rfl
  have k269864 : H269860 r0 10 = 0 := wq_u_s e269861
  refine wp_of e51 c51_5 (rw_iload_n (pc' := 6) (z := a1) rfl rfl ?_)
  exact wp_ireturn e51 c51_6 rfl ⟨rfl, w269862, f269863, a1, rfl, ⟨by omega, by omega⟩, ⟨by omega, by omega⟩⟩
