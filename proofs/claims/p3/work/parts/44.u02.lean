/-! what methods do (own work, written by wip/gen3/sx3.py) -/
/-! StrikeAwake$Reader.readsTold(LStrikeAwake$Parish;)Z  -/
abbrev uq_42 (r0 : Nat) (r1 : Nat) (tk : Nat) (rb : Nat) (B : Nat → Int) (n : Int) (q : Int) (d : xD) (T : wq_T) (H : wq_H) : Option Value → wq_T → wq_H → Prop := fun r T' H' => T = T' ∧ WT T H' ∧ wfr [(27, 13), (3, 1), (3, 2), (3, 3), (3, 4), (4, 2), (4, 3), (4, 4), (4, 5), (4, 6), (33, 999), (32, 999)] T H H' ∧ ∃ z : Int, some (vI z) = r ∧ (0 ≤ z ∧ z ≤ 1) ∧ (((z = 1) ∧ ((xtl B n q d).1 = 0) ∧ (xtl B n q d = (0, q, (xN B n (xN B n (xN B n (xN B n q)))))) ∧ (q ≤ (xN B n (xN B n (xN B n (xN B n q))))) ∧ TC T H' tk B n (xN B n (xN B n (xN B n (xN B n q)))) ∧ DC T H' r1 (xdtl B n q d)) ∨ ((z = 0) ∧ ((xtl B n q d).1 ≠ 0) ∧ ((xtl B n q d).2.2 = (xtl B n q d).2.1) ∧ (H' r0 3 = (xtl B n q d).1) ∧ (H' r0 4 = (xtl B n q d).2.1)))
set_option maxHeartbeats 4000000 in
theorem u_42 {kt : Nat → Option mc_E} {T : wq_T} {H : wq_H} {r0 : Nat} {r1 : Nat} {tk : Nat} {rb : Nat} {B : Nat → Int} {n : Int} {q : Int} {d : xD} (hW : WT T H) (g0 : T.2.2.2 r0 = some 3) (g1 : T.2.2.2 r1 = some 27) (qtk : H r0 0 = (tk : Int)) (gtk : T.2.2.2 tk = some 4) (qrb : H tk 0 = (rb : Int)) (grb : T.2.2.2 rb = some 2) (p0 : d 0 6 ≤ 3) (hTC_tk : TC T H tk B n q) (hDC_r1 : DC T H r1 d) : wpc kt 5 42 [.ref r0, .ref r1] T H (uq_42 r0 r1 tk rb B n q d T H) := by
  refine wp_enter e42 (Nat.le_of_ble_eq_true rfl) rfl ?_
  have f0 : wfr [(27, 13), (3, 1), (3, 2), (3, 3), (3, 4), (4, 2), (4, 3), (4, 4), (4, 5), (4, 6), (33, 999), (32, 999)] T H H := wfr.rf
  show wp _ _ 42 0 [(0, .ref r0), (1, .ref r1)] [] _ H _
  have u233483 := TC_k hTC_tk
  have u233484 := DC_k hDC_r1
  have h233485 : DQ T H r1 d := hDC_r1.2.1
  have h233486 : ST T H r1 (d 13) := hDC_r1.2.2.1
  have h233487 : SV T H r1 (d 13) 24 := hDC_r1.2.2.2.1
  have h233488 : DA3 T H r1 (d 0 5) (d 12) := hDC_r1.2.2.2.2.1
  have h233489 : DA4 T H r1 (d 0 6) (d 14) := hDC_r1.2.2.2.2.2.1
  have h233490 : DA5 T H r1 (d 0 6) (d 15) := hDC_r1.2.2.2.2.2.2.1
  have h233491 : DA6 T H r1 (d 0 7) (d 16) := hDC_r1.2.2.2.2.2.2.2
  have _w := @xwho_e d B n q
  refine wp_of e42 c42_0 (rw_aload_n (pc' := 1) (v := .ref r0) rfl rfl rfl ?_)
  refine wp_of e42 c42_1 (rw_aload_n (pc' := 2) (v := .ref r1) rfl rfl rfl ?_)
  refine wp_of e42 c42_2 (xc_V (pc' := 5) (r := r0) (as := [.ref r1]) (st := []) (lm_1_207) rfl rfl (Nat.le_of_ble_eq_true rfl) hW g0 sh_3 (by decide) rfl (by decide) (u_33 (B := B) (n := n) (q := q) (d := d) hW g0 g1 qtk gtk qrb grb hTC_tk hDC_r1) (fun R233492 T233493 H233494 p233495 => ?_))
  obtain ⟨e233496, w233498, f233499, z233500, e233497, b233501, p233502⟩ := p233495
  subst e233496
  subst e233497
  rcases p233502 with ⟨a233503, a233504, a233505, a233506⟩ | ⟨a233507, a233508, a233509, a233510⟩
  · have f233511 := f0.tr f233499 rfl
    show wp _ _ 42 5 [(0, .ref r0), (1, .ref r1)] [vI z233500] _ H233494 _
    refine wp_of e42 c42_5 (rw_istore_n (pc' := 6) (z := z233500) (L' := [(2, vI z233500), (0, .ref r0), (1, .ref r1)]) rfl rfl rfl ?_)
    refine wp_of e42 c42_6 (rw_iload_n (pc' := 7) (z := z233500) rfl rfl ?_)
    refine wp_of e42 c42_7 (rw_if_ge (p1 := 12) (p2 := 10) (by decide) rfl ⟨by omega, by omega⟩ (fun c233512 => ?_) (fun c233512 => ?_))
    · refine wp_of e42 c42_12 (rw_aload_n (pc' := 13) (v := .ref r0) rfl rfl rfl ?_)
      have k233513 : H233494 r0 0 = H r0 0 := (f233499 r0 0 _ g0 rfl)
      have q233514 : H233494 r0 0 = (tk : Int) := k233513.trans qtk
      refine wp_of e42 c42_13 (xg_K (pc' := 16) lf_1_12 w233498 g0 sh_3 (by decide) (by decide) rfl q233514 rfl ?_)
      have k233515 : H233494 tk 0 = H tk 0 := (f233499 tk 0 _ gtk rfl)
      have q233516 : H233494 tk 0 = (rb : Int) := k233515.trans qrb
      have k233517 : H233494 tk 1 = H tk 1 := (f233499 tk 1 _ gtk rfl)
      have k233518 : H233494 tk 2 = H tk 2 := (f233499 tk 2 _ gtk rfl)
      have h233519 : TC T H233494 tk B n q := (TC_fr hW gtk f233499 rfl hTC_tk)
      have h233520 : TP T H233494 rb B := TC_tp h233519 q233516
      refine wp_of e42 c42_16 (xc_V (pc' := 19) (r := tk) (as := []) (st := []) (lm_1_74) rfl rfl (Nat.le_of_ble_eq_true rfl) w233498 gtk sh_4 (by decide) rfl (by decide) (u_16 (B := B) (n := n) (a := (xE B n q)) (q := (xN B n q)) w233498 gtk q233516 grb (by omega) (by omega) (by omega) (rfl) h233520) (fun R233521 T233522 H233523 p233524 => ?_))
      obtain ⟨e233525, w233527, f233528, e233526, p233529⟩ := p233524
      subst e233525
      subst e233526
      have f233531 := f233511.tr f233528 rfl
      show wp _ _ 42 19 [(2, vI z233500), (0, .ref r0), (1, .ref r1)] [] _ H233523 _
      have u233532 := TC_k p233529
      refine wp_of e42 c42_19 (rw_aload_n (pc' := 20) (v := .ref r0) rfl rfl rfl ?_)
      refine wp_of e42 c42_20 (rw_bipush (pc' := 22) (z := 23) rfl (by decide) ?_)
      refine wp_of e42 c42_22 (rw_iconst (pc' := 23) rfl ?_)
      refine wp_of e42 c42_23 (rw_bipush (pc' := 25) (z := 24) rfl (by decide) ?_)
      refine wp_of e42 c42_25 (rw_bipush (pc' := 27) (z := 24) rfl (by decide) ?_)
      have k233533 : H233523 r0 0 = H233494 r0 0 := (f233528 r0 0 _ g0 rfl)
      have q233534 : H233523 r0 0 = (tk : Int) := k233533.trans q233514
      have k233535 : H233523 tk 0 = H233494 tk 0 := (f233528 tk 0 _ gtk rfl)
      have q233536 : H233523 tk 0 = (rb : Int) := k233535.trans q233516
      refine wp_of e42 c42_27 (xc_V (pc' := 30) (r := r0) (as := [vI 23, vI 1, vI 24, vI 24]) (st := []) (lm_1_154) rfl rfl (Nat.le_of_ble_eq_true rfl) w233527 g0 sh_3 (by decide) rfl (by decide) (u_29 (B := B) (n := n) (q := ((xN B n q))) w233527 g0 ⟨by omega, by omega⟩ ⟨by omega, by omega⟩ ⟨by omega, by omega⟩ ⟨by omega, by omega⟩ q233534 gtk q233536 grb p233529) (fun R233537 T233538 H233539 p233540 => ?_))
      obtain ⟨e233541, w233543, f233544, z233545, e233542, b233546, p233547⟩ := p233540
      subst e233541
      subst e233542
      rcases p233547 with ⟨a233548, a233549, a233550, a233551, a233552, a233553, a233554, a233555⟩ | ⟨a233556, a233557, a233558, a233559, a233560⟩
      · have f233561 := f233531.tr f233544 rfl
        show wp _ _ 42 30 [(2, vI z233500), (0, .ref r0), (1, .ref r1)] [vI z233545] _ H233539 _
        have u233562 := TC_k a233555
        refine wp_of e42 c42_30 (rw_if_ne (p1 := 35) (p2 := 33) (by decide) rfl ⟨by omega, by omega⟩ (fun c233563 => ?_) (fun c233563 => ?_))
        · refine wp_of e42 c42_35 (rw_aload_n (pc' := 36) (v := .ref r1) rfl rfl rfl ?_)
          refine wp_of e42 c42_36 (xg_R (pc' := 39) lf_1_242 w233543 g1 sh_27 (by decide) (by decide) ty_27_4 rfl rfl (fun r233564 q233565 g233566 => ?_))
          refine wp_of e42 c42_39 (rw_aload_n (pc' := 40) (v := .ref r1) rfl rfl rfl ?_)
          have k233567 : H233539 r1 13 = H r1 13 := ((f233544 r1 13 _ g1 rfl).trans ((f233528 r1 13 _ g1 rfl).trans (f233499 r1 13 _ g1 rfl)))
          refine wp_of e42 c42_40 (xg_I (pc' := 43) lf_1_245 w233543 g1 sh_27 (by decide) (by decide) ty_27_13 rfl rfl (fun b233568 b233569 => ?_))
          refine wp_of e42 c42_43 (rw_iload_n (pc' := 44) (z := z233500) rfl rfl ?_)
          have h233570 : DA4 T H233539 r1 (d 0 6) (d 14) := (DA4_fr w233527 g1 f233544 rfl (DA4_fr w233498 g1 f233528 rfl (DA4_fr hW g1 f233499 rfl h233489)))
          refine wp_of e42 c42_44 (xs_I (pc' := 45) w233543 g233566 (by decide) sh_32 (by decide) (ty_32 _) (by omega) (by omega) ⟨by omega, by omega⟩ (by omega) (by omega) rfl (fun H233571 e233572 w233573 => ?_))
          have f233574 := f233561.put' e233572 g233566 rfl
          have h233575 : DA4 T H233571 r1 (d 0 6 + 1) (xdtl B n q d 14) := DA_put h233570 q233565 g1 g233566 (by decide) e233572 (by omega) rfl ((xdtl_c (k := ((H233539 r1 13).toNat)) (by omega)).1.trans (by omega)) (xdtl_c (k := ((H233539 r1 13).toNat)) (by omega)).2
          refine wp_of e42 c42_45 (rw_aload_n (pc' := 46) (v := .ref r1) rfl rfl rfl ?_)
          refine wp_of e42 c42_46 (xg_R (pc' := 49) lf_1_248 w233573 g1 sh_27 (by decide) (by decide) ty_27_5 rfl rfl (fun r233576 q233577 g233578 => ?_))
          refine wp_of e42 c42_49 (rw_aload_n (pc' := 50) (v := .ref r1) rfl rfl rfl ?_)
          have k233579 : H233571 r1 13 = H233539 r1 13 := (wq_u_t e233572 g233566 g1 rfl 13)
          refine wp_of e42 c42_50 (xg_I (pc' := 53) lf_1_245 w233573 g1 sh_27 (by decide) (by decide) ty_27_13 rfl rfl (fun b233580 b233581 => ?_))
          refine wp_of e42 c42_53 (rw_aload_n (pc' := 54) (v := .ref r0) rfl rfl rfl ?_)
          have k233582 : H233571 r0 1 = H233539 r0 1 := (wq_u_t e233572 g233566 g0 rfl 1)
          refine wp_of e42 c42_54 (xg_I (pc' := 57) lf_1_158 w233573 g0 sh_3 (by decide) (by decide) ty_3_1 rfl rfl (fun b233583 b233584 => ?_))
          refine wp_of e42 c42_57 (rw_aload_n (pc' := 58) (v := .ref r0) rfl rfl rfl ?_)
          have k233585 : H233571 r0 2 = H233539 r0 2 := (wq_u_t e233572 g233566 g0 rfl 2)
          refine wp_of e42 c42_58 (xg_I (pc' := 61) lf_1_164 w233573 g0 sh_3 (by decide) (by decide) ty_3_2 rfl rfl (fun b233586 b233587 => ?_))
          refine wp_of e42 c42_61 (xc_S (pc' := 64) (as := [vI (H233571 r0 1), vI (H233571 r0 2)]) (st := [vI (H233571 r1 13), .ref r233576]) (lm_1_194) rfl rfl (Nat.le_of_ble_eq_true rfl) rfl (by decide) (u_31 (lo := (xV B n (xN B n q))) (hi := (xV B n (xN B n (xN B n (xN B n q))))) w233573 ⟨by omega, by omega⟩ ⟨by omega, by omega⟩ (by omega) (by omega) (by omega)) (fun R233588 T233589 H233590 p233591 => ?_))
          obtain ⟨e233592, e233594, z233595, e233593, b233596, p233597⟩ := p233591
          subst e233592
          subst e233593
          subst e233594
          show wp _ _ 42 64 [(2, vI z233500), (0, .ref r0), (1, .ref r1)] [vI z233595, vI (H233571 r1 13), .ref r233576] _ H233571 _
          have h233599 : DA5 T H233571 r1 (d 0 6) (d 15) := (DA5_fr w233543 g1 ((wfr.rf (l := [(32, 999)])).put' e233572 g233566 rfl) rfl (DA5_fr w233527 g1 f233544 rfl (DA5_fr w233498 g1 f233528 rfl (DA5_fr hW g1 f233499 rfl h233490))))
          refine wp_of e42 c42_64 (xs_I (pc' := 65) w233573 g233578 (by decide) sh_33 (by decide) (ty_33 _) (by omega) (by omega) ⟨by omega, by omega⟩ (by omega) (by omega) rfl (fun H233600 e233601 w233602 => ?_))
          have f233603 := f233574.put' e233601 g233578 rfl
          have h233604 : DA5 T H233600 r1 (d 0 6 + 1) (xdtl B n q d 15) := DA_put h233599 q233577 g1 g233578 (by decide) e233601 (by omega) rfl ((xdtl_e (k := ((H233571 r1 13).toNat)) (by omega)).1.trans (by omega)) (xdtl_e (k := ((H233571 r1 13).toNat)) (by omega)).2
          refine wp_of e42 c42_65 (rw_aload_n (pc' := 66) (v := .ref r1) rfl rfl rfl ?_)
          refine wp_of e42 c42_66 (rw_dup (pc' := 67) rfl rfl ?_)
          have k233605 : H233600 r1 13 = H233571 r1 13 := (wq_u_t e233601 g233578 g1 rfl 13)
          refine wp_of e42 c42_67 (xg_I (pc' := 70) lf_1_245 w233602 g1 sh_27 (by decide) (by decide) ty_27_13 rfl rfl (fun b233606 b233607 => ?_))
          refine wp_of e42 c42_70 (rw_iconst (pc' := 71) rfl ?_)
          refine wp_of e42 c42_71 (rw_iadd (pc' := 72) rfl ?_)
          refine wp_of e42 c42_72 (xp_I (pc' := 75) lf_1_245 w233602 g1 sh_27 (by decide) (by decide) ty_27_13 rfl rfl (by omega) (by omega) ⟨by omega, by omega⟩ rfl (fun H233608 e233609 w233610 => ?_))
          have f233611 := f233603.put' e233609 g1 rfl
          have k233612 : H233608 r1 13 = (H233600 r1 13) + 1 := wq_u_s e233609
          refine wp_of e42 c42_75 (rw_iconst (pc' := 76) rfl ?_)
          have k233613 : H233608 r1 7 = H r1 7 := ((wq_u_j e233609 rfl).trans ((wq_u_t e233601 g233578 g1 rfl 7).trans ((wq_u_t e233572 g233566 g1 rfl 7).trans ((f233544 r1 7 _ g1 rfl).trans ((f233528 r1 7 _ g1 rfl).trans (f233499 r1 7 _ g1 rfl))))))
          have k233614 : H233608 r1 8 = H r1 8 := ((wq_u_j e233609 rfl).trans ((wq_u_t e233601 g233578 g1 rfl 8).trans ((wq_u_t e233572 g233566 g1 rfl 8).trans ((f233544 r1 8 _ g1 rfl).trans ((f233528 r1 8 _ g1 rfl).trans (f233499 r1 8 _ g1 rfl))))))
          have k233615 : H233608 r1 9 = H r1 9 := ((wq_u_j e233609 rfl).trans ((wq_u_t e233601 g233578 g1 rfl 9).trans ((wq_u_t e233572 g233566 g1 rfl 9).trans ((f233544 r1 9 _ g1 rfl).trans ((f233528 r1 9 _ g1 rfl).trans (f233499 r1 9 _ g1 rfl))))))
          have k233616 : H233608 r1 10 = H r1 10 := ((wq_u_j e233609 rfl).trans ((wq_u_t e233601 g233578 g1 rfl 10).trans ((wq_u_t e233572 g233566 g1 rfl 10).trans ((f233544 r1 10 _ g1 rfl).trans ((f233528 r1 10 _ g1 rfl).trans (f233499 r1 10 _ g1 rfl))))))
          have k233617 : H233608 r1 11 = H r1 11 := ((wq_u_j e233609 rfl).trans ((wq_u_t e233601 g233578 g1 rfl 11).trans ((wq_u_t e233572 g233566 g1 rfl 11).trans ((f233544 r1 11 _ g1 rfl).trans ((f233528 r1 11 _ g1 rfl).trans (f233499 r1 11 _ g1 rfl))))))
          have k233618 : H233608 r1 12 = H r1 12 := ((wq_u_j e233609 rfl).trans ((wq_u_t e233601 g233578 g1 rfl 12).trans ((wq_u_t e233572 g233566 g1 rfl 12).trans ((f233544 r1 12 _ g1 rfl).trans ((f233528 r1 12 _ g1 rfl).trans (f233499 r1 12 _ g1 rfl))))))
          have k233619 : H233608 r1 14 = H r1 14 := ((wq_u_j e233609 rfl).trans ((wq_u_t e233601 g233578 g1 rfl 14).trans ((wq_u_t e233572 g233566 g1 rfl 14).trans ((f233544 r1 14 _ g1 rfl).trans ((f233528 r1 14 _ g1 rfl).trans (f233499 r1 14 _ g1 rfl))))))
          have k233620 : H233608 r1 15 = H r1 15 := ((wq_u_j e233609 rfl).trans ((wq_u_t e233601 g233578 g1 rfl 15).trans ((wq_u_t e233572 g233566 g1 rfl 15).trans ((f233544 r1 15 _ g1 rfl).trans ((f233528 r1 15 _ g1 rfl).trans (f233499 r1 15 _ g1 rfl))))))
          have k233621 : H233608 r1 16 = H r1 16 := ((wq_u_j e233609 rfl).trans ((wq_u_t e233601 g233578 g1 rfl 16).trans ((wq_u_t e233572 g233566 g1 rfl 16).trans ((f233544 r1 16 _ g1 rfl).trans ((f233528 r1 16 _ g1 rfl).trans (f233499 r1 16 _ g1 rfl))))))
          have k233622 : H233608 r0 1 = H233571 r0 1 := ((wq_u_t e233609 g1 g0 rfl 1).trans (wq_u_t e233601 g233578 g0 rfl 1))
          have k233623 : H233608 r0 2 = H233571 r0 2 := ((wq_u_t e233609 g1 g0 rfl 2).trans (wq_u_t e233601 g233578 g0 rfl 2))
          have o233624 : (xtl B n q d) = (0, q, (xN B n (xN B n (xN B n ((xN B n q)))))) := by
            unfold xtl
            repeat first | rw [xs_0 (by omega)] | rw [xs_1 (by omega)] | rw [if_pos (by omega)] | rw [if_neg (by omega)]
            first | done | rfl | assumption | (exfalso; omega) | (refine Prod.ext ?_ (Prod.ext ?_ ?_) <;> (try dsimp only) <;> omega)
          have o233624a : ((xtl B n q d)).1 = 0 := by rw [o233624]
          have o233624b : ((xtl B n q d)).2.1 = q := by rw [o233624]
          have o233624c : ((xtl B n q d)).2.2 = (xN B n (xN B n (xN B n ((xN B n q))))) := by rw [o233624]
          have _l := @xdtl_v B n q d
          have h233625 : TC T H233608 tk B n (xN B n (xN B n (xN B n ((xN B n q))))) := (TC_fr w233602 gtk ((wfr.rf (l := [(27, 13)])).put' e233609 g1 rfl) rfl (TC_fr w233573 gtk ((wfr.rf (l := [(33, 999)])).put' e233601 g233578 rfl) rfl (TC_fr w233543 gtk ((wfr.rf (l := [(32, 999)])).put' e233572 g233566 rfl) rfl a233555)))
          have h233626 : DQ T H233608 r1 d := (DQ_fr w233602 g1 ((wfr.rf (l := [(27, 13)])).put' e233609 g1 rfl) rfl (DQ_fr w233573 g1 ((wfr.rf (l := [(33, 999)])).put' e233601 g233578 rfl) rfl (DQ_fr w233543 g1 ((wfr.rf (l := [(32, 999)])).put' e233572 g233566 rfl) rfl (DQ_fr w233527 g1 f233544 rfl (DQ_fr w233498 g1 f233528 rfl (DQ_fr hW g1 f233499 rfl h233485))))))
          have h233627 : ST T H233608 r1 (d 13) := (ST_fr w233602 g1 ((wfr.rf (l := [(27, 13)])).put' e233609 g1 rfl) rfl (ST_fr w233573 g1 ((wfr.rf (l := [(33, 999)])).put' e233601 g233578 rfl) rfl (ST_fr w233543 g1 ((wfr.rf (l := [(32, 999)])).put' e233572 g233566 rfl) rfl (ST_fr w233527 g1 f233544 rfl (ST_fr w233498 g1 f233528 rfl (ST_fr hW g1 f233499 rfl h233486))))))
          have h233628 : SV T H233608 r1 (d 13) 24 := (SV_fr w233602 g1 ((wfr.rf (l := [(27, 13)])).put' e233609 g1 rfl) rfl (SV_fr w233573 g1 ((wfr.rf (l := [(33, 999)])).put' e233601 g233578 rfl) rfl (SV_fr w233543 g1 ((wfr.rf (l := [(32, 999)])).put' e233572 g233566 rfl) rfl (SV_fr w233527 g1 f233544 rfl (SV_fr w233498 g1 f233528 rfl (SV_fr hW g1 f233499 rfl h233487))))))
          have h233629 : DA3 T H233608 r1 (d 0 5) (d 12) := (DA3_fr w233602 g1 ((wfr.rf (l := [(27, 13)])).put' e233609 g1 rfl) rfl (DA3_fr w233573 g1 ((wfr.rf (l := [(33, 999)])).put' e233601 g233578 rfl) rfl (DA3_fr w233543 g1 ((wfr.rf (l := [(32, 999)])).put' e233572 g233566 rfl) rfl (DA3_fr w233527 g1 f233544 rfl (DA3_fr w233498 g1 f233528 rfl (DA3_fr hW g1 f233499 rfl h233488))))))
          have h233630 : DA4 T H233608 r1 (d 0 6 + 1) (xdtl B n q d 14) := (DA4_fr w233602 g1 ((wfr.rf (l := [(27, 13)])).put' e233609 g1 rfl) rfl (DA4_fr w233573 g1 ((wfr.rf (l := [(33, 999)])).put' e233601 g233578 rfl) rfl h233575))
          have h233631 : DA5 T H233608 r1 (d 0 6 + 1) (xdtl B n q d 15) := (DA5_fr w233602 g1 ((wfr.rf (l := [(27, 13)])).put' e233609 g1 rfl) rfl h233604)
          have h233632 : DA6 T H233608 r1 (d 0 7) (d 16) := (DA6_fr w233602 g1 ((wfr.rf (l := [(27, 13)])).put' e233609 g1 rfl) rfl (DA6_fr w233573 g1 ((wfr.rf (l := [(33, 999)])).put' e233601 g233578 rfl) rfl (DA6_fr w233543 g1 ((wfr.rf (l := [(32, 999)])).put' e233572 g233566 rfl) rfl (DA6_fr w233527 g1 f233544 rfl (DA6_fr w233498 g1 f233528 rfl (DA6_fr hW g1 f233499 rfl h233491))))))
          exact wp_zreturn e42 c42_76 rfl (by omega) ⟨rfl, w233610, f233611, 1, rfl, ⟨by omega, by omega⟩, (Or.inl ⟨by omega, by omega, o233624, by omega, h233625, DC_mk ⟨by omega, by omega, by omega, by omega, by omega, by omega, by omega, by omega, by omega, by omega, by omega, by omega, by omega, by omega, by omega, by omega⟩ (DQ_cg (fun i h1 h2 => xdtl_r h1 (by omega)) (by omega) (by omega) h233626) h233627 h233628 h233629 h233630 h233631 h233632 ⟨rfl, rfl, rfl, rfl, rfl⟩ ⟨by omega, by omega, by omega⟩⟩)⟩
        · exfalso
          omega
      · have f233633 := f233531.tr f233544 rfl
        show wp _ _ 42 30 [(2, vI z233500), (0, .ref r0), (1, .ref r1)] [vI z233545] _ H233539 _
        refine wp_of e42 c42_30 (rw_if_ne (p1 := 35) (p2 := 33) (by decide) rfl ⟨by omega, by omega⟩ (fun c233634 => ?_) (fun c233634 => ?_))
        · exfalso
          omega
        · refine wp_of e42 c42_33 (rw_iconst (pc' := 34) rfl ?_)
          have k233635 : H233539 r1 7 = H r1 7 := ((f233544 r1 7 _ g1 rfl).trans ((f233528 r1 7 _ g1 rfl).trans (f233499 r1 7 _ g1 rfl)))
          have k233636 : H233539 r1 8 = H r1 8 := ((f233544 r1 8 _ g1 rfl).trans ((f233528 r1 8 _ g1 rfl).trans (f233499 r1 8 _ g1 rfl)))
          have k233637 : H233539 r1 9 = H r1 9 := ((f233544 r1 9 _ g1 rfl).trans ((f233528 r1 9 _ g1 rfl).trans (f233499 r1 9 _ g1 rfl)))
          have k233638 : H233539 r1 10 = H r1 10 := ((f233544 r1 10 _ g1 rfl).trans ((f233528 r1 10 _ g1 rfl).trans (f233499 r1 10 _ g1 rfl)))
          have k233639 : H233539 r1 11 = H r1 11 := ((f233544 r1 11 _ g1 rfl).trans ((f233528 r1 11 _ g1 rfl).trans (f233499 r1 11 _ g1 rfl)))
          have k233640 : H233539 r1 12 = H r1 12 := ((f233544 r1 12 _ g1 rfl).trans ((f233528 r1 12 _ g1 rfl).trans (f233499 r1 12 _ g1 rfl)))
          have k233641 : H233539 r1 13 = H r1 13 := ((f233544 r1 13 _ g1 rfl).trans ((f233528 r1 13 _ g1 rfl).trans (f233499 r1 13 _ g1 rfl)))
          have k233642 : H233539 r1 14 = H r1 14 := ((f233544 r1 14 _ g1 rfl).trans ((f233528 r1 14 _ g1 rfl).trans (f233499 r1 14 _ g1 rfl)))
          have k233643 : H233539 r1 15 = H r1 15 := ((f233544 r1 15 _ g1 rfl).trans ((f233528 r1 15 _ g1 rfl).trans (f233499 r1 15 _ g1 rfl)))
          have k233644 : H233539 r1 16 = H r1 16 := ((f233544 r1 16 _ g1 rfl).trans ((f233528 r1 16 _ g1 rfl).trans (f233499 r1 16 _ g1 rfl)))
          have o233645 : (xtl B n q d) = ((xrg B n ((xN B n q)) 23 1 24 24).1, (xrg B n ((xN B n q)) 23 1 24 24).2.1, (xrg B n ((xN B n q)) 23 1 24 24).2.2) := by
            unfold xtl
            repeat first | rw [xs_0 (by omega)] | rw [xs_1 (by omega)] | rw [if_pos (by omega)] | rw [if_neg (by omega)]
            first | done | rfl | assumption | (exfalso; omega) | (refine Prod.ext ?_ (Prod.ext ?_ ?_) <;> (try dsimp only) <;> omega)
          have o233645a : ((xtl B n q d)).1 = (xrg B n ((xN B n q)) 23 1 24 24).1 := by rw [o233645]
          have o233645b : ((xtl B n q d)).2.1 = (xrg B n ((xN B n q)) 23 1 24 24).2.1 := by rw [o233645]
          have o233645c : ((xtl B n q d)).2.2 = (xrg B n ((xN B n q)) 23 1 24 24).2.2 := by rw [o233645]
          have _l := @xdtl_v B n q d
          exact wp_zreturn e42 c42_34 rfl (by omega) ⟨rfl, w233543, f233633, 0, rfl, ⟨by omega, by omega⟩, (Or.inr ⟨by omega, by omega, by omega, by omega, by omega⟩)⟩
    · exfalso
      omega
  · have f233646 := f0.tr f233499 rfl
    show wp _ _ 42 5 [(0, .ref r0), (1, .ref r1)] [vI z233500] _ H233494 _
    refine wp_of e42 c42_5 (rw_istore_n (pc' := 6) (z := z233500) (L' := [(2, vI z233500), (0, .ref r0), (1, .ref r1)]) rfl rfl rfl ?_)
    refine wp_of e42 c42_6 (rw_iload_n (pc' := 7) (z := z233500) rfl rfl ?_)
    refine wp_of e42 c42_7 (rw_if_ge (p1 := 12) (p2 := 10) (by decide) rfl ⟨by omega, by omega⟩ (fun c233647 => ?_) (fun c233647 => ?_))
    · exfalso
      omega
    · refine wp_of e42 c42_10 (rw_iconst (pc' := 11) rfl ?_)
      have k233648 : H233494 r1 7 = H r1 7 := (f233499 r1 7 _ g1 rfl)
      have k233649 : H233494 r1 8 = H r1 8 := (f233499 r1 8 _ g1 rfl)
      have k233650 : H233494 r1 9 = H r1 9 := (f233499 r1 9 _ g1 rfl)
      have k233651 : H233494 r1 10 = H r1 10 := (f233499 r1 10 _ g1 rfl)
      have k233652 : H233494 r1 11 = H r1 11 := (f233499 r1 11 _ g1 rfl)
      have k233653 : H233494 r1 12 = H r1 12 := (f233499 r1 12 _ g1 rfl)
      have k233654 : H233494 r1 13 = H r1 13 := (f233499 r1 13 _ g1 rfl)
      have k233655 : H233494 r1 14 = H r1 14 := (f233499 r1 14 _ g1 rfl)
      have k233656 : H233494 r1 15 = H r1 15 := (f233499 r1 15 _ g1 rfl)
      have k233657 : H233494 r1 16 = H r1 16 := (f233499 r1 16 _ g1 rfl)
      have o233658 : (xtl B n q d) = (xkn B n q d, q, q) := by
        unfold xtl
        repeat first | rw [xs_0 (by omega)] | rw [xs_1 (by omega)] | rw [if_pos (by omega)] | rw [if_neg (by omega)]
        first | done | rfl | assumption | (exfalso; omega) | (refine Prod.ext ?_ (Prod.ext ?_ ?_) <;> (try dsimp only) <;> omega)
      have o233658a : ((xtl B n q d)).1 = xkn B n q d := by rw [o233658]
      have o233658b : ((xtl B n q d)).2.1 = q := by rw [o233658]
      have o233658c : ((xtl B n q d)).2.2 = q := by rw [o233658]
      have _l := @xdtl_v B n q d
      exact wp_zreturn e42 c42_11 rfl (by omega) ⟨rfl, w233498, f233646, 0, rfl, ⟨by omega, by omega⟩, (Or.inr ⟨by omega, by omega, by omega, by omega, by omega⟩)⟩
/-! StrikeAwake$Reader.readsOffer(LStrikeAwake$Parish;)Z  -/
abbrev uq_43 (r0 : Nat) (r1 : Nat) (tk : Nat) (rb : Nat) (B : Nat → Int) (n : Int) (q : Int) (d : xD) (T : wq_T) (H : wq_H) : Option Value → wq_T → wq_H → Prop := fun r T' H' => T = T' ∧ WT T H' ∧ wfr [(27, 14), (3, 1), (3, 2), (3, 3), (3, 4), (4, 2), (4, 3), (4, 4), (4, 5), (4, 6), (34, 999)] T H H' ∧ ∃ z : Int, some (vI z) = r ∧ (0 ≤ z ∧ z ≤ 1) ∧ (((z = 1) ∧ ((xtl B n q d).1 = 0) ∧ (xtl B n q d = (0, q, (xN B n (xN B n (xN B n (xN B n q)))))) ∧ (q ≤ (xN B n (xN B n (xN B n (xN B n q))))) ∧ TC T H' tk B n (xN B n (xN B n (xN B n (xN B n q)))) ∧ DC T H' r1 (xdof B n q d)) ∨ ((z = 0) ∧ ((xtl B n q d).1 ≠ 0) ∧ ((xtl B n q d).2.2 = (xtl B n q d).2.1) ∧ (H' r0 3 = (xtl B n q d).1) ∧ (H' r0 4 = (xtl B n q d).2.1)))
set_option maxHeartbeats 4000000 in
theorem u_43 {kt : Nat → Option mc_E} {T : wq_T} {H : wq_H} {r0 : Nat} {r1 : Nat} {tk : Nat} {rb : Nat} {B : Nat → Int} {n : Int} {q : Int} {d : xD} (hW : WT T H) (g0 : T.2.2.2 r0 = some 3) (g1 : T.2.2.2 r1 = some 27) (qtk : H r0 0 = (tk : Int)) (gtk : T.2.2.2 tk = some 4) (qrb : H tk 0 = (rb : Int)) (grb : T.2.2.2 rb = some 2) (p0 : d 0 7 ≤ 5) (hTC_tk : TC T H tk B n q) (hDC_r1 : DC T H r1 d) : wpc kt 5 43 [.ref r0, .ref r1] T H (uq_43 r0 r1 tk rb B n q d T H) := by
  refine wp_enter e43 (Nat.le_of_ble_eq_true rfl) rfl ?_
  have f0 : wfr [(27, 14), (3, 1), (3, 2), (3, 3), (3, 4), (4, 2), (4, 3), (4, 4), (4, 5), (4, 6), (34, 999)] T H H := wfr.rf
  show wp _ _ 43 0 [(0, .ref r0), (1, .ref r1)] [] _ H _
  have u233771 := TC_k hTC_tk
  have u233772 := DC_k hDC_r1
  have h233773 : DQ T H r1 d := hDC_r1.2.1
  have h233774 : ST T H r1 (d 13) := hDC_r1.2.2.1
  have h233775 : SV T H r1 (d 13) 24 := hDC_r1.2.2.2.1
  have h233776 : DA3 T H r1 (d 0 5) (d 12) := hDC_r1.2.2.2.2.1
  have h233777 : DA4 T H r1 (d 0 6) (d 14) := hDC_r1.2.2.2.2.2.1
  have h233778 : DA5 T H r1 (d 0 6) (d 15) := hDC_r1.2.2.2.2.2.2.1
  have h233779 : DA6 T H r1 (d 0 7) (d 16) := hDC_r1.2.2.2.2.2.2.2
  refine wp_of e43 c43_0 (rw_aload_n (pc' := 1) (v := .ref r0) rfl rfl rfl ?_)
  refine wp_of e43 c43_1 (rw_aload_n (pc' := 2) (v := .ref r1) rfl rfl rfl ?_)
  refine wp_of e43 c43_2 (xc_V (pc' := 5) (r := r0) (as := [.ref r1]) (st := []) (lm_1_207) rfl rfl (Nat.le_of_ble_eq_true rfl) hW g0 sh_3 (by decide) rfl (by decide) (u_33 (B := B) (n := n) (q := q) (d := d) hW g0 g1 qtk gtk qrb grb hTC_tk hDC_r1) (fun R233780 T233781 H233782 p233783 => ?_))
  obtain ⟨e233784, w233786, f233787, z233788, e233785, b233789, p233790⟩ := p233783
  subst e233784
  subst e233785
  rcases p233790 with ⟨a233791, a233792, a233793, a233794⟩ | ⟨a233795, a233796, a233797, a233798⟩
  · have f233799 := f0.tr f233787 rfl
    show wp _ _ 43 5 [(0, .ref r0), (1, .ref r1)] [vI z233788] _ H233782 _
    refine wp_of e43 c43_5 (rw_if_ge (p1 := 10) (p2 := 8) (by decide) rfl ⟨by omega, by omega⟩ (fun c233800 => ?_) (fun c233800 => ?_))
    · refine wp_of e43 c43_10 (rw_aload_n (pc' := 11) (v := .ref r0) rfl rfl rfl ?_)
      have k233801 : H233782 r0 0 = H r0 0 := (f233787 r0 0 _ g0 rfl)
      have q233802 : H233782 r0 0 = (tk : Int) := k233801.trans qtk
      refine wp_of e43 c43_11 (xg_K (pc' := 14) lf_1_12 w233786 g0 sh_3 (by decide) (by decide) rfl q233802 rfl ?_)
      have k233803 : H233782 tk 0 = H tk 0 := (f233787 tk 0 _ gtk rfl)
      have q233804 : H233782 tk 0 = (rb : Int) := k233803.trans qrb
      have k233805 : H233782 tk 1 = H tk 1 := (f233787 tk 1 _ gtk rfl)
      have k233806 : H233782 tk 2 = H tk 2 := (f233787 tk 2 _ gtk rfl)
      have h233807 : TC T H233782 tk B n q := (TC_fr hW gtk f233787 rfl hTC_tk)
      have h233808 : TP T H233782 rb B := TC_tp h233807 q233804
      refine wp_of e43 c43_14 (xc_V (pc' := 17) (r := tk) (as := []) (st := []) (lm_1_74) rfl rfl (Nat.le_of_ble_eq_true rfl) w233786 gtk sh_4 (by decide) rfl (by decide) (u_16 (B := B) (n := n) (a := (xE B n q)) (q := (xN B n q)) w233786 gtk q233804 grb (by omega) (by omega) (by omega) (rfl) h233808) (fun R233809 T233810 H233811 p233812 => ?_))
      obtain ⟨e233813, w233815, f233816, e233814, p233817⟩ := p233812
      subst e233813
      subst e233814
      have f233819 := f233799.tr f233816 rfl
      show wp _ _ 43 17 [(0, .ref r0), (1, .ref r1)] [] _ H233811 _
      have u233820 := TC_k p233817
      refine wp_of e43 c43_17 (rw_aload_n (pc' := 18) (v := .ref r0) rfl rfl rfl ?_)
      refine wp_of e43 c43_18 (rw_bipush (pc' := 20) (z := 23) rfl (by decide) ?_)
      refine wp_of e43 c43_20 (rw_iconst (pc' := 21) rfl ?_)
      refine wp_of e43 c43_21 (rw_bipush (pc' := 23) (z := 24) rfl (by decide) ?_)
      refine wp_of e43 c43_23 (rw_bipush (pc' := 25) (z := 24) rfl (by decide) ?_)
      have k233821 : H233811 r0 0 = H233782 r0 0 := (f233816 r0 0 _ g0 rfl)
      have q233822 : H233811 r0 0 = (tk : Int) := k233821.trans q233802
      have k233823 : H233811 tk 0 = H233782 tk 0 := (f233816 tk 0 _ gtk rfl)
      have q233824 : H233811 tk 0 = (rb : Int) := k233823.trans q233804
      refine wp_of e43 c43_25 (xc_V (pc' := 28) (r := r0) (as := [vI 23, vI 1, vI 24, vI 24]) (st := []) (lm_1_154) rfl rfl (Nat.le_of_ble_eq_true rfl) w233815 g0 sh_3 (by decide) rfl (by decide) (u_29 (B := B) (n := n) (q := ((xN B n q))) w233815 g0 ⟨by omega, by omega⟩ ⟨by omega, by omega⟩ ⟨by omega, by omega⟩ ⟨by omega, by omega⟩ q233822 gtk q233824 grb p233817) (fun R233825 T233826 H233827 p233828 => ?_))
      obtain ⟨e233829, w233831, f233832, z233833, e233830, b233834, p233835⟩ := p233828
      subst e233829
      subst e233830
      rcases p233835 with ⟨a233836, a233837, a233838, a233839, a233840, a233841, a233842, a233843⟩ | ⟨a233844, a233845, a233846, a233847, a233848⟩
      · have f233849 := f233819.tr f233832 rfl
        show wp _ _ 43 28 [(0, .ref r0), (1, .ref r1)] [vI z233833] _ H233827 _
        have u233850 := TC_k a233843
        refine wp_of e43 c43_28 (rw_if_ne (p1 := 33) (p2 := 31) (by decide) rfl ⟨by omega, by omega⟩ (fun c233851 => ?_) (fun c233851 => ?_))
        · refine wp_of e43 c43_33 (rw_aload_n (pc' := 34) (v := .ref r1) rfl rfl rfl ?_)
          refine wp_of e43 c43_34 (xg_R (pc' := 37) lf_1_251 w233831 g1 sh_27 (by decide) (by decide) ty_27_6 rfl rfl (fun r233852 q233853 g233854 => ?_))
          refine wp_of e43 c43_37 (rw_aload_n (pc' := 38) (v := .ref r1) rfl rfl rfl ?_)
          have k233855 : H233827 r1 14 = H r1 14 := ((f233832 r1 14 _ g1 rfl).trans ((f233816 r1 14 _ g1 rfl).trans (f233787 r1 14 _ g1 rfl)))
          refine wp_of e43 c43_38 (xg_I (pc' := 41) lf_1_254 w233831 g1 sh_27 (by decide) (by decide) ty_27_14 rfl rfl (fun b233856 b233857 => ?_))
          refine wp_of e43 c43_41 (rw_aload_n (pc' := 42) (v := .ref r0) rfl rfl rfl ?_)
          refine wp_of e43 c43_42 (xg_I (pc' := 45) lf_1_158 w233831 g0 sh_3 (by decide) (by decide) ty_3_1 rfl rfl (fun b233858 b233859 => ?_))
          refine wp_of e43 c43_45 (rw_aload_n (pc' := 46) (v := .ref r0) rfl rfl rfl ?_)
          refine wp_of e43 c43_46 (xg_I (pc' := 49) lf_1_164 w233831 g0 sh_3 (by decide) (by decide) ty_3_2 rfl rfl (fun b233860 b233861 => ?_))
          refine wp_of e43 c43_49 (xc_S (pc' := 52) (as := [vI (H233827 r0 1), vI (H233827 r0 2)]) (st := [vI (H233827 r1 14), .ref r233852]) (lm_1_194) rfl rfl (Nat.le_of_ble_eq_true rfl) rfl (by decide) (u_31 (lo := (xV B n (xN B n q))) (hi := (xV B n (xN B n (xN B n (xN B n q))))) w233831 ⟨by omega, by omega⟩ ⟨by omega, by omega⟩ (by omega) (by omega) (by omega)) (fun R233862 T233863 H233864 p233865 => ?_))
          obtain ⟨e233866, e233868, z233869, e233867, b233870, p233871⟩ := p233865
          subst e233866
          subst e233867
          subst e233868
          show wp _ _ 43 52 [(0, .ref r0), (1, .ref r1)] [vI z233869, vI (H233827 r1 14), .ref r233852] _ H233827 _
          have h233873 : DA6 T H233827 r1 (d 0 7) (d 16) := (DA6_fr w233815 g1 f233832 rfl (DA6_fr w233786 g1 f233816 rfl (DA6_fr hW g1 f233787 rfl h233779)))
          refine wp_of e43 c43_52 (xs_I (pc' := 53) w233831 g233854 (by decide) sh_34 (by decide) (ty_34 _) (by omega) (by omega) ⟨by omega, by omega⟩ (by omega) (by omega) rfl (fun H233874 e233875 w233876 => ?_))
          have f233877 := f233849.put' e233875 g233854 rfl
          have h233878 : DA6 T H233874 r1 (d 0 7 + 1) (xdof B n q d 16) := DA_put h233873 q233853 g1 g233854 (by decide) e233875 (by omega) rfl ((xdof_c (k := ((H233827 r1 14).toNat)) (by omega)).1.trans (by omega)) (xdof_c (k := ((H233827 r1 14).toNat)) (by omega)).2
          refine wp_of e43 c43_53 (rw_aload_n (pc' := 54) (v := .ref r1) rfl rfl rfl ?_)
          refine wp_of e43 c43_54 (rw_dup (pc' := 55) rfl rfl ?_)
          have k233879 : H233874 r1 14 = H233827 r1 14 := (wq_u_t e233875 g233854 g1 rfl 14)
          refine wp_of e43 c43_55 (xg_I (pc' := 58) lf_1_254 w233876 g1 sh_27 (by decide) (by decide) ty_27_14 rfl rfl (fun b233880 b233881 => ?_))
          refine wp_of e43 c43_58 (rw_iconst (pc' := 59) rfl ?_)
          refine wp_of e43 c43_59 (rw_iadd (pc' := 60) rfl ?_)
          refine wp_of e43 c43_60 (xp_I (pc' := 63) lf_1_254 w233876 g1 sh_27 (by decide) (by decide) ty_27_14 rfl rfl (by omega) (by omega) ⟨by omega, by omega⟩ rfl (fun H233882 e233883 w233884 => ?_))
          have f233885 := f233877.put' e233883 g1 rfl
          have k233886 : H233882 r1 14 = (H233874 r1 14) + 1 := wq_u_s e233883
          refine wp_of e43 c43_63 (rw_iconst (pc' := 64) rfl ?_)
          have k233887 : H233882 r1 7 = H r1 7 := ((wq_u_j e233883 rfl).trans ((wq_u_t e233875 g233854 g1 rfl 7).trans ((f233832 r1 7 _ g1 rfl).trans ((f233816 r1 7 _ g1 rfl).trans (f233787 r1 7 _ g1 rfl)))))
          have k233888 : H233882 r1 8 = H r1 8 := ((wq_u_j e233883 rfl).trans ((wq_u_t e233875 g233854 g1 rfl 8).trans ((f233832 r1 8 _ g1 rfl).trans ((f233816 r1 8 _ g1 rfl).trans (f233787 r1 8 _ g1 rfl)))))
          have k233889 : H233882 r1 9 = H r1 9 := ((wq_u_j e233883 rfl).trans ((wq_u_t e233875 g233854 g1 rfl 9).trans ((f233832 r1 9 _ g1 rfl).trans ((f233816 r1 9 _ g1 rfl).trans (f233787 r1 9 _ g1 rfl)))))
          have k233890 : H233882 r1 10 = H r1 10 := ((wq_u_j e233883 rfl).trans ((wq_u_t e233875 g233854 g1 rfl 10).trans ((f233832 r1 10 _ g1 rfl).trans ((f233816 r1 10 _ g1 rfl).trans (f233787 r1 10 _ g1 rfl)))))
          have k233891 : H233882 r1 11 = H r1 11 := ((wq_u_j e233883 rfl).trans ((wq_u_t e233875 g233854 g1 rfl 11).trans ((f233832 r1 11 _ g1 rfl).trans ((f233816 r1 11 _ g1 rfl).trans (f233787 r1 11 _ g1 rfl)))))
          have k233892 : H233882 r1 12 = H r1 12 := ((wq_u_j e233883 rfl).trans ((wq_u_t e233875 g233854 g1 rfl 12).trans ((f233832 r1 12 _ g1 rfl).trans ((f233816 r1 12 _ g1 rfl).trans (f233787 r1 12 _ g1 rfl)))))
          have k233893 : H233882 r1 13 = H r1 13 := ((wq_u_j e233883 rfl).trans ((wq_u_t e233875 g233854 g1 rfl 13).trans ((f233832 r1 13 _ g1 rfl).trans ((f233816 r1 13 _ g1 rfl).trans (f233787 r1 13 _ g1 rfl)))))
          have k233894 : H233882 r1 15 = H r1 15 := ((wq_u_j e233883 rfl).trans ((wq_u_t e233875 g233854 g1 rfl 15).trans ((f233832 r1 15 _ g1 rfl).trans ((f233816 r1 15 _ g1 rfl).trans (f233787 r1 15 _ g1 rfl)))))
          have k233895 : H233882 r1 16 = H r1 16 := ((wq_u_j e233883 rfl).trans ((wq_u_t e233875 g233854 g1 rfl 16).trans ((f233832 r1 16 _ g1 rfl).trans ((f233816 r1 16 _ g1 rfl).trans (f233787 r1 16 _ g1 rfl)))))
          have k233896 : H233882 r0 1 = H233827 r0 1 := ((wq_u_t e233883 g1 g0 rfl 1).trans (wq_u_t e233875 g233854 g0 rfl 1))
          have k233897 : H233882 r0 2 = H233827 r0 2 := ((wq_u_t e233883 g1 g0 rfl 2).trans (wq_u_t e233875 g233854 g0 rfl 2))
          have o233898 : (xtl B n q d) = (0, q, (xN B n (xN B n (xN B n ((xN B n q)))))) := by
            unfold xtl
            repeat first | rw [xs_0 (by omega)] | rw [xs_1 (by omega)] | rw [if_pos (by omega)] | rw [if_neg (by omega)]
            first | done | rfl | assumption | (exfalso; omega) | (refine Prod.ext ?_ (Prod.ext ?_ ?_) <;> (try dsimp only) <;> omega)
          have o233898a : ((xtl B n q d)).1 = 0 := by rw [o233898]
          have o233898b : ((xtl B n q d)).2.1 = q := by rw [o233898]
          have o233898c : ((xtl B n q d)).2.2 = (xN B n (xN B n (xN B n ((xN B n q))))) := by rw [o233898]
          have _l := @xdof_v B n q d
          have h233899 : TC T H233882 tk B n (xN B n (xN B n (xN B n ((xN B n q))))) := (TC_fr w233876 gtk ((wfr.rf (l := [(27, 14)])).put' e233883 g1 rfl) rfl (TC_fr w233831 gtk ((wfr.rf (l := [(34, 999)])).put' e233875 g233854 rfl) rfl a233843))
          have h233900 : DQ T H233882 r1 d := (DQ_fr w233876 g1 ((wfr.rf (l := [(27, 14)])).put' e233883 g1 rfl) rfl (DQ_fr w233831 g1 ((wfr.rf (l := [(34, 999)])).put' e233875 g233854 rfl) rfl (DQ_fr w233815 g1 f233832 rfl (DQ_fr w233786 g1 f233816 rfl (DQ_fr hW g1 f233787 rfl h233773)))))
          have h233901 : ST T H233882 r1 (d 13) := (ST_fr w233876 g1 ((wfr.rf (l := [(27, 14)])).put' e233883 g1 rfl) rfl (ST_fr w233831 g1 ((wfr.rf (l := [(34, 999)])).put' e233875 g233854 rfl) rfl (ST_fr w233815 g1 f233832 rfl (ST_fr w233786 g1 f233816 rfl (ST_fr hW g1 f233787 rfl h233774)))))
          have h233902 : SV T H233882 r1 (d 13) 24 := (SV_fr w233876 g1 ((wfr.rf (l := [(27, 14)])).put' e233883 g1 rfl) rfl (SV_fr w233831 g1 ((wfr.rf (l := [(34, 999)])).put' e233875 g233854 rfl) rfl (SV_fr w233815 g1 f233832 rfl (SV_fr w233786 g1 f233816 rfl (SV_fr hW g1 f233787 rfl h233775)))))
          have h233903 : DA3 T H233882 r1 (d 0 5) (d 12) := (DA3_fr w233876 g1 ((wfr.rf (l := [(27, 14)])).put' e233883 g1 rfl) rfl (DA3_fr w233831 g1 ((wfr.rf (l := [(34, 999)])).put' e233875 g233854 rfl) rfl (DA3_fr w233815 g1 f233832 rfl (DA3_fr w233786 g1 f233816 rfl (DA3_fr hW g1 f233787 rfl h233776)))))
          have h233904 : DA4 T H233882 r1 (d 0 6) (d 14) := (DA4_fr w233876 g1 ((wfr.rf (l := [(27, 14)])).put' e233883 g1 rfl) rfl (DA4_fr w233831 g1 ((wfr.rf (l := [(34, 999)])).put' e233875 g233854 rfl) rfl (DA4_fr w233815 g1 f233832 rfl (DA4_fr w233786 g1 f233816 rfl (DA4_fr hW g1 f233787 rfl h233777)))))
          have h233905 : DA5 T H233882 r1 (d 0 6) (d 15) := (DA5_fr w233876 g1 ((wfr.rf (l := [(27, 14)])).put' e233883 g1 rfl) rfl (DA5_fr w233831 g1 ((wfr.rf (l := [(34, 999)])).put' e233875 g233854 rfl) rfl (DA5_fr w233815 g1 f233832 rfl (DA5_fr w233786 g1 f233816 rfl (DA5_fr hW g1 f233787 rfl h233778)))))
          have h233906 : DA6 T H233882 r1 (d 0 7 + 1) (xdof B n q d 16) := (DA6_fr w233876 g1 ((wfr.rf (l := [(27, 14)])).put' e233883 g1 rfl) rfl h233878)
          exact wp_zreturn e43 c43_64 rfl (by omega) ⟨rfl, w233884, f233885, 1, rfl, ⟨by omega, by omega⟩, (Or.inl ⟨by omega, by omega, o233898, by omega, h233899, DC_mk ⟨by omega, by omega, by omega, by omega, by omega, by omega, by omega, by omega, by omega, by omega, by omega, by omega, by omega, by omega, by omega, by omega⟩ (DQ_cg (fun i h1 h2 => xdof_r h1 (by omega)) (by omega) (by omega) h233900) h233901 h233902 h233903 h233904 h233905 h233906 ⟨rfl, rfl, rfl, rfl, rfl⟩ ⟨by omega, by omega, by omega⟩⟩)⟩
        · exfalso
          omega
      · have f233907 := f233819.tr f233832 rfl
        show wp _ _ 43 28 [(0, .ref r0), (1, .ref r1)] [vI z233833] _ H233827 _
        refine wp_of e43 c43_28 (rw_if_ne (p1 := 33) (p2 := 31) (by decide) rfl ⟨by omega, by omega⟩ (fun c233908 => ?_) (fun c233908 => ?_))
        · exfalso
          omega
        · refine wp_of e43 c43_31 (rw_iconst (pc' := 32) rfl ?_)
          have k233909 : H233827 r1 7 = H r1 7 := ((f233832 r1 7 _ g1 rfl).trans ((f233816 r1 7 _ g1 rfl).trans (f233787 r1 7 _ g1 rfl)))
          have k233910 : H233827 r1 8 = H r1 8 := ((f233832 r1 8 _ g1 rfl).trans ((f233816 r1 8 _ g1 rfl).trans (f233787 r1 8 _ g1 rfl)))
          have k233911 : H233827 r1 9 = H r1 9 := ((f233832 r1 9 _ g1 rfl).trans ((f233816 r1 9 _ g1 rfl).trans (f233787 r1 9 _ g1 rfl)))
          have k233912 : H233827 r1 10 = H r1 10 := ((f233832 r1 10 _ g1 rfl).trans ((f233816 r1 10 _ g1 rfl).trans (f233787 r1 10 _ g1 rfl)))
          have k233913 : H233827 r1 11 = H r1 11 := ((f233832 r1 11 _ g1 rfl).trans ((f233816 r1 11 _ g1 rfl).trans (f233787 r1 11 _ g1 rfl)))
          have k233914 : H233827 r1 12 = H r1 12 := ((f233832 r1 12 _ g1 rfl).trans ((f233816 r1 12 _ g1 rfl).trans (f233787 r1 12 _ g1 rfl)))
          have k233915 : H233827 r1 13 = H r1 13 := ((f233832 r1 13 _ g1 rfl).trans ((f233816 r1 13 _ g1 rfl).trans (f233787 r1 13 _ g1 rfl)))
          have k233916 : H233827 r1 14 = H r1 14 := ((f233832 r1 14 _ g1 rfl).trans ((f233816 r1 14 _ g1 rfl).trans (f233787 r1 14 _ g1 rfl)))
          have k233917 : H233827 r1 15 = H r1 15 := ((f233832 r1 15 _ g1 rfl).trans ((f233816 r1 15 _ g1 rfl).trans (f233787 r1 15 _ g1 rfl)))
          have k233918 : H233827 r1 16 = H r1 16 := ((f233832 r1 16 _ g1 rfl).trans ((f233816 r1 16 _ g1 rfl).trans (f233787 r1 16 _ g1 rfl)))
          have o233919 : (xtl B n q d) = ((xrg B n ((xN B n q)) 23 1 24 24).1, (xrg B n ((xN B n q)) 23 1 24 24).2.1, (xrg B n ((xN B n q)) 23 1 24 24).2.2) := by
            unfold xtl
            repeat first | rw [xs_0 (by omega)] | rw [xs_1 (by omega)] | rw [if_pos (by omega)] | rw [if_neg (by omega)]
            first | done | rfl | assumption | (exfalso; omega) | (refine Prod.ext ?_ (Prod.ext ?_ ?_) <;> (try dsimp only) <;> omega)
          have o233919a : ((xtl B n q d)).1 = (xrg B n ((xN B n q)) 23 1 24 24).1 := by rw [o233919]
          have o233919b : ((xtl B n q d)).2.1 = (xrg B n ((xN B n q)) 23 1 24 24).2.1 := by rw [o233919]
          have o233919c : ((xtl B n q d)).2.2 = (xrg B n ((xN B n q)) 23 1 24 24).2.2 := by rw [o233919]
          have _l := @xdof_v B n q d
          exact wp_zreturn e43 c43_32 rfl (by omega) ⟨rfl, w233831, f233907, 0, rfl, ⟨by omega, by omega⟩, (Or.inr ⟨by omega, by omega, by omega, by omega, by omega⟩)⟩
    · exfalso
      omega
  · have f233920 := f0.tr f233787 rfl
    show wp _ _ 43 5 [(0, .ref r0), (1, .ref r1)] [vI z233788] _ H233782 _
    refine wp_of e43 c43_5 (rw_if_ge (p1 := 10) (p2 := 8) (by decide) rfl ⟨by omega, by omega⟩ (fun c233921 => ?_) (fun c233921 => ?_))
    · exfalso
      omega
    · refine wp_of e43 c43_8 (rw_iconst (pc' := 9) rfl ?_)
      have k233922 : H233782 r1 7 = H r1 7 := (f233787 r1 7 _ g1 rfl)
      have k233923 : H233782 r1 8 = H r1 8 := (f233787 r1 8 _ g1 rfl)
      have k233924 : H233782 r1 9 = H r1 9 := (f233787 r1 9 _ g1 rfl)
      have k233925 : H233782 r1 10 = H r1 10 := (f233787 r1 10 _ g1 rfl)
      have k233926 : H233782 r1 11 = H r1 11 := (f233787 r1 11 _ g1 rfl)
      have k233927 : H233782 r1 12 = H r1 12 := (f233787 r1 12 _ g1 rfl)
      have k233928 : H233782 r1 13 = H r1 13 := (f233787 r1 13 _ g1 rfl)
      have k233929 : H233782 r1 14 = H r1 14 := (f233787 r1 14 _ g1 rfl)
      have k233930 : H233782 r1 15 = H r1 15 := (f233787 r1 15 _ g1 rfl)
      have k233931 : H233782 r1 16 = H r1 16 := (f233787 r1 16 _ g1 rfl)
      have o233932 : (xtl B n q d) = (xkn B n q d, q, q) := by
        unfold xtl
        repeat first | rw [xs_0 (by omega)] | rw [xs_1 (by omega)] | rw [if_pos (by omega)] | rw [if_neg (by omega)]
        first | done | rfl | assumption | (exfalso; omega) | (refine Prod.ext ?_ (Prod.ext ?_ ?_) <;> (try dsimp only) <;> omega)
      have o233932a : ((xtl B n q d)).1 = xkn B n q d := by rw [o233932]
      have o233932b : ((xtl B n q d)).2.1 = q := by rw [o233932]
      have o233932c : ((xtl B n q d)).2.2 = q := by rw [o233932]
      have _l := @xdof_v B n q d
      exact wp_zreturn e43 c43_9 rfl (by omega) ⟨rfl, w233786, f233920, 0, rfl, ⟨by omega, by omega⟩, (Or.inr ⟨by omega, by omega, by omega, by omega, by omega⟩)⟩
/-! StrikeAwake$Reader.readsApart(LStrikeAwake$Parish;)Z  -/
abbrev uq_34 (r0 : Nat) (r1 : Nat) (tk : Nat) (rb : Nat) (B : Nat → Int) (n : Int) (q : Int) (d : xD) (T : wq_T) (H : wq_H) : Option Value → wq_T → wq_H → Prop := fun r T' H' => T = T' ∧ WT T H' ∧ wfr [(27, 11), (35, 14), (3, 3), (3, 4), (4, 2), (4, 3), (4, 4), (4, 5), (4, 6)] T H H' ∧ ∃ z : Int, some (vI z) = r ∧ (0 ≤ z ∧ z ≤ 1) ∧ (((z = 1) ∧ ((xap B n q d).1 = 0) ∧ (xap B n q d = (0, q, (xN B n (xN B n (xN B n q))))) ∧ (q ≤ (xN B n (xN B n (xN B n q)))) ∧ TC T H' tk B n (xN B n (xN B n (xN B n q))) ∧ DC T H' r1 (xdap B n q d)) ∨ ((z = 0) ∧ ((xap B n q d).1 ≠ 0) ∧ ((xap B n q d).2.2 = (xap B n q d).2.1) ∧ (H' r0 3 = (xap B n q d).1) ∧ (H' r0 4 = (xap B n q d).2.1)))
set_option maxHeartbeats 4000000 in
theorem u_34 {kt : Nat → Option mc_E} {T : wq_T} {H : wq_H} {r0 : Nat} {r1 : Nat} {tk : Nat} {rb : Nat} {B : Nat → Int} {n : Int} {q : Int} {d : xD} (hW : WT T H) (g0 : T.2.2.2 r0 = some 3) (g1 : T.2.2.2 r1 = some 27) (qtk : H r0 0 = (tk : Int)) (gtk : T.2.2.2 tk = some 4) (qrb : H tk 0 = (rb : Int)) (grb : T.2.2.2 rb = some 2) (p0 : d 0 4 ≤ 2) (hTC_tk : TC T H tk B n q) (hDC_r1 : DC T H r1 d) (hDD_r1 : DD T H r1 ) : wpc kt 5 34 [.ref r0, .ref r1] T H (uq_34 r0 r1 tk rb B n q d T H) := by
  refine wp_enter e34 (Nat.le_of_ble_eq_true rfl) rfl ?_
  have f0 : wfr [(27, 11), (35, 14), (3, 3), (3, 4), (4, 2), (4, 3), (4, 4), (4, 5), (4, 6)] T H H := wfr.rf
  show wp _ _ 34 0 [(0, .ref r0), (1, .ref r1)] [] _ H _
  have u234155 := TC_k hTC_tk
  have u234156 := DC_k hDC_r1
  have h234157 : ST T H r1 (d 13) := hDC_r1.2.2.1
  have h234158 : SV T H r1 (d 13) 24 := hDC_r1.2.2.2.1
  have h234159 : DA3 T H r1 (d 0 5) (d 12) := hDC_r1.2.2.2.2.1
  have h234160 : DA4 T H r1 (d 0 6) (d 14) := hDC_r1.2.2.2.2.2.1
  have h234161 : DA5 T H r1 (d 0 6) (d 15) := hDC_r1.2.2.2.2.2.2.1
  have h234162 : DA6 T H r1 (d 0 7) (d 16) := hDC_r1.2.2.2.2.2.2.2
  have h234163 : DG T H r1 d (xM d) := hDC_r1.2.1.1
  have _w1 := @xwho_e d B n q
  have _w2 := @xwho_e d B n (xN B n (xN B n q))
  refine wp_of e34 c34_0 (rw_aload_n (pc' := 1) (v := .ref r0) rfl rfl rfl ?_)
  refine wp_of e34 c34_1 (rw_aload_n (pc' := 2) (v := .ref r1) rfl rfl rfl ?_)
  refine wp_of e34 c34_2 (xc_V (pc' := 5) (r := r0) (as := [.ref r1]) (st := []) (lm_1_207) rfl rfl (Nat.le_of_ble_eq_true rfl) hW g0 sh_3 (by decide) rfl (by decide) (u_33 (B := B) (n := n) (q := q) (d := d) hW g0 g1 qtk gtk qrb grb hTC_tk hDC_r1) (fun R234164 T234165 H234166 p234167 => ?_))
  obtain ⟨e234168, w234170, f234171, z234172, e234169, b234173, p234174⟩ := p234167
  subst e234168
  subst e234169
  rcases p234174 with ⟨a234175, a234176, a234177, a234178⟩ | ⟨a234179, a234180, a234181, a234182⟩
  · have f234183 := f0.tr f234171 rfl
    show wp _ _ 34 5 [(0, .ref r0), (1, .ref r1)] [vI z234172] _ H234166 _
    refine wp_of e34 c34_5 (rw_istore_n (pc' := 6) (z := z234172) (L' := [(2, vI z234172), (0, .ref r0), (1, .ref r1)]) rfl rfl rfl ?_)
    refine wp_of e34 c34_6 (rw_iload_n (pc' := 7) (z := z234172) rfl rfl ?_)
    refine wp_of e34 c34_7 (rw_if_ge (p1 := 12) (p2 := 10) (by decide) rfl ⟨by omega, by omega⟩ (fun c234184 => ?_) (fun c234184 => ?_))
    · refine wp_of e34 c34_12 (rw_aload_n (pc' := 13) (v := .ref r0) rfl rfl rfl ?_)
      have k234185 : H234166 r0 0 = H r0 0 := (f234171 r0 0 _ g0 rfl)
      have q234186 : H234166 r0 0 = (tk : Int) := k234185.trans qtk
      refine wp_of e34 c34_13 (xg_K (pc' := 16) lf_1_12 w234170 g0 sh_3 (by decide) (by decide) rfl q234186 rfl ?_)
      have k234187 : H234166 tk 0 = H tk 0 := (f234171 tk 0 _ gtk rfl)
      have q234188 : H234166 tk 0 = (rb : Int) := k234187.trans qrb
      have k234189 : H234166 tk 1 = H tk 1 := (f234171 tk 1 _ gtk rfl)
      have k234190 : H234166 tk 2 = H tk 2 := (f234171 tk 2 _ gtk rfl)
      have h234191 : TC T H234166 tk B n q := (TC_fr hW gtk f234171 rfl hTC_tk)
      have h234192 : TP T H234166 rb B := TC_tp h234191 q234188
      refine wp_of e34 c34_16 (xc_V (pc' := 19) (r := tk) (as := []) (st := []) (lm_1_74) rfl rfl (Nat.le_of_ble_eq_true rfl) w234170 gtk sh_4 (by decide) rfl (by decide) (u_16 (B := B) (n := n) (a := (xE B n q)) (q := (xN B n q)) w234170 gtk q234188 grb (by omega) (by omega) (by omega) (rfl) h234192) (fun R234193 T234194 H234195 p234196 => ?_))
      obtain ⟨e234197, w234199, f234200, e234198, p234201⟩ := p234196
      subst e234197
      subst e234198
      have f234203 := f234183.tr f234200 rfl
      show wp _ _ 34 19 [(2, vI z234172), (0, .ref r0), (1, .ref r1)] [] _ H234195 _
      have u234204 := TC_k p234201
      refine wp_of e34 c34_19 (rw_aload_n (pc' := 20) (v := .ref r0) rfl rfl rfl ?_)
      refine wp_of e34 c34_20 (rw_iconst (pc' := 21) rfl ?_)
      have k234205 : H234195 r0 0 = H234166 r0 0 := (f234200 r0 0 _ g0 rfl)
      have q234206 : H234195 r0 0 = (tk : Int) := k234205.trans q234186
      have k234207 : H234195 tk 0 = H234166 tk 0 := (f234200 tk 0 _ gtk rfl)
      have q234208 : H234195 tk 0 = (rb : Int) := k234207.trans q234188
      refine wp_of e34 c34_21 (xc_V (pc' := 24) (r := r0) (as := [vI 4]) (st := []) (lm_1_51) rfl rfl (Nat.le_of_ble_eq_true rfl) w234199 g0 sh_3 (by decide) rfl (by decide) (u_35 (B := B) (n := n) (q := ((xN B n q))) w234199 g0 ⟨by omega, by omega⟩ q234206 gtk q234208 grb p234201) (fun R234209 T234210 H234211 p234212 => ?_))
      obtain ⟨e234213, w234215, f234216, z234217, e234214, b234218, p234219⟩ := p234212
      subst e234213
      subst e234214
      rcases p234219 with ⟨a234220, a234221, a234222, a234223⟩ | ⟨a234224, a234225, a234226, a234227, a234228⟩
      · have f234229 := f234203.tr f234216 rfl
        show wp _ _ 34 24 [(2, vI z234172), (0, .ref r0), (1, .ref r1)] [vI z234217] _ H234211 _
        have u234230 := TC_k a234223
        refine wp_of e34 c34_24 (rw_if_ne (p1 := 29) (p2 := 27) (by decide) rfl ⟨by omega, by omega⟩ (fun c234231 => ?_) (fun c234231 => ?_))
        · refine wp_of e34 c34_29 (rw_aload_n (pc' := 30) (v := .ref r0) rfl rfl rfl ?_)
          refine wp_of e34 c34_30 (rw_aload_n (pc' := 31) (v := .ref r1) rfl rfl rfl ?_)
          have k234232 : H234211 r0 0 = H234195 r0 0 := (f234216 r0 0 _ g0 rfl)
          have q234233 : H234211 r0 0 = (tk : Int) := k234232.trans q234206
          have k234234 : H234211 tk 0 = H234195 tk 0 := (f234216 tk 0 _ gtk rfl)
          have q234235 : H234211 tk 0 = (rb : Int) := k234234.trans q234208
          have h234236 : DC T H234211 r1 d := (DC_fr w234199 g1 f234216 rfl (DC_fr w234170 g1 f234200 rfl (DC_fr hW g1 f234171 rfl hDC_r1)))
          refine wp_of e34 c34_31 (xc_V (pc' := 34) (r := r0) (as := [.ref r1]) (st := []) (lm_1_207) rfl rfl (Nat.le_of_ble_eq_true rfl) w234215 g0 sh_3 (by decide) rfl (by decide) (u_33 (B := B) (n := n) (q := ((xN B n ((xN B n q))))) (d := d) w234215 g0 g1 q234233 gtk q234235 grb a234223 h234236) (fun R234237 T234238 H234239 p234240 => ?_))
          obtain ⟨e234241, w234243, f234244, z234245, e234242, b234246, p234247⟩ := p234240
          subst e234241
          subst e234242
          rcases p234247 with ⟨a234248, a234249, a234250, a234251⟩ | ⟨a234252, a234253, a234254, a234255⟩
          · have f234256 := f234229.tr f234244 rfl
            show wp _ _ 34 34 [(2, vI z234172), (0, .ref r0), (1, .ref r1)] [vI z234245] _ H234239 _
            refine wp_of e34 c34_34 (rw_istore_n (pc' := 35) (z := z234245) (L' := [(3, vI z234245), (2, vI z234172), (0, .ref r0), (1, .ref r1)]) rfl rfl rfl ?_)
            refine wp_of e34 c34_35 (rw_iload_n (pc' := 36) (z := z234245) rfl rfl ?_)
            refine wp_of e34 c34_36 (rw_if_ge (p1 := 41) (p2 := 39) (by decide) rfl ⟨by omega, by omega⟩ (fun c234257 => ?_) (fun c234257 => ?_))
            · have _a := @xac_M d z234172 z234245 (by omega) (by omega)
              have _c : xac d (xwho B n q d) (xwho B n (xN B n (xN B n q)) d) = xac d z234172 z234245 := by rw [show xwho B n q d = z234172 by omega, show xwho B n (xN B n (xN B n q)) d = z234245 by omega]
              refine wp_of e34 c34_41 (rw_iload_n (pc' := 42) (z := z234245) rfl rfl ?_)
              refine wp_of e34 c34_42 (rw_iload_n (pc' := 43) (z := z234172) rfl rfl ?_)
              refine wp_of e34 c34_43 (rw_icmp_eq (p1 := 62) (p2 := 46) (by decide) rfl ⟨by omega, by omega⟩ ⟨by omega, by omega⟩ (fun c234258 => ?_) (fun c234258 => ?_))
              · refine wp_of e34 c34_62 (rw_aload_n (pc' := 63) (v := .ref r0) rfl rfl rfl ?_)
                refine wp_of e34 c34_63 (rw_iconst (pc' := 64) rfl ?_)
                have k234259 : H234239 r0 0 = H234211 r0 0 := (f234244 r0 0 _ g0 rfl)
                have q234260 : H234239 r0 0 = (tk : Int) := k234259.trans q234233
                have k234261 : H234239 tk 4 = H234211 tk 4 := (f234244 tk 4 _ gtk rfl)
                refine wp_of e34 c34_64 (xc_V (pc' := 67) (r := r0) (as := [vI 3]) (st := []) (lm_1_47) rfl rfl (Nat.le_of_ble_eq_true rfl) w234243 g0 sh_3 (by decide) rfl (by decide) (u_20  w234243 g0 ⟨by omega, by omega⟩ q234260 gtk) (fun R234262 T234263 H234264 p234265 => ?_))
                obtain ⟨e234266, w234268, f234269, z234270, e234267, b234271, p234272⟩ := p234265
                subst e234266
                subst e234267
                obtain ⟨a234273, a234274, a234275⟩ := p234272
                have f234276 := f234256.tr f234269 rfl
                show wp _ _ 34 67 [(3, vI z234245), (2, vI z234172), (0, .ref r0), (1, .ref r1)] [vI z234270] _ H234264 _
                have k234277 : H234264 r1 7 = H r1 7 := ((f234269 r1 7 _ g1 rfl).trans ((f234244 r1 7 _ g1 rfl).trans ((f234216 r1 7 _ g1 rfl).trans ((f234200 r1 7 _ g1 rfl).trans (f234171 r1 7 _ g1 rfl)))))
                have k234278 : H234264 r1 8 = H r1 8 := ((f234269 r1 8 _ g1 rfl).trans ((f234244 r1 8 _ g1 rfl).trans ((f234216 r1 8 _ g1 rfl).trans ((f234200 r1 8 _ g1 rfl).trans (f234171 r1 8 _ g1 rfl)))))
                have k234279 : H234264 r1 9 = H r1 9 := ((f234269 r1 9 _ g1 rfl).trans ((f234244 r1 9 _ g1 rfl).trans ((f234216 r1 9 _ g1 rfl).trans ((f234200 r1 9 _ g1 rfl).trans (f234171 r1 9 _ g1 rfl)))))
                have k234280 : H234264 r1 10 = H r1 10 := ((f234269 r1 10 _ g1 rfl).trans ((f234244 r1 10 _ g1 rfl).trans ((f234216 r1 10 _ g1 rfl).trans ((f234200 r1 10 _ g1 rfl).trans (f234171 r1 10 _ g1 rfl)))))
                have k234281 : H234264 r1 11 = H r1 11 := ((f234269 r1 11 _ g1 rfl).trans ((f234244 r1 11 _ g1 rfl).trans ((f234216 r1 11 _ g1 rfl).trans ((f234200 r1 11 _ g1 rfl).trans (f234171 r1 11 _ g1 rfl)))))
                have k234282 : H234264 r1 12 = H r1 12 := ((f234269 r1 12 _ g1 rfl).trans ((f234244 r1 12 _ g1 rfl).trans ((f234216 r1 12 _ g1 rfl).trans ((f234200 r1 12 _ g1 rfl).trans (f234171 r1 12 _ g1 rfl)))))
                have k234283 : H234264 r1 13 = H r1 13 := ((f234269 r1 13 _ g1 rfl).trans ((f234244 r1 13 _ g1 rfl).trans ((f234216 r1 13 _ g1 rfl).trans ((f234200 r1 13 _ g1 rfl).trans (f234171 r1 13 _ g1 rfl)))))
                have k234284 : H234264 r1 14 = H r1 14 := ((f234269 r1 14 _ g1 rfl).trans ((f234244 r1 14 _ g1 rfl).trans ((f234216 r1 14 _ g1 rfl).trans ((f234200 r1 14 _ g1 rfl).trans (f234171 r1 14 _ g1 rfl)))))
                have k234285 : H234264 r1 15 = H r1 15 := ((f234269 r1 15 _ g1 rfl).trans ((f234244 r1 15 _ g1 rfl).trans ((f234216 r1 15 _ g1 rfl).trans ((f234200 r1 15 _ g1 rfl).trans (f234171 r1 15 _ g1 rfl)))))
                have k234286 : H234264 r1 16 = H r1 16 := ((f234269 r1 16 _ g1 rfl).trans ((f234244 r1 16 _ g1 rfl).trans ((f234216 r1 16 _ g1 rfl).trans ((f234200 r1 16 _ g1 rfl).trans (f234171 r1 16 _ g1 rfl)))))
                have o234287 : (xap B n q d) = (xac d (xwho B n q d) (xwho B n (xN B n (xN B n q)) d), (xN B n (xN B n q)), (xN B n (xN B n q))) := by
                  unfold xap
                  repeat first | rw [xs_0 (by omega)] | rw [xs_1 (by omega)] | rw [if_pos (by omega)] | rw [if_neg (by omega)]
                  first | done | rfl | assumption | (exfalso; omega) | (refine Prod.ext ?_ (Prod.ext ?_ ?_) <;> (try dsimp only) <;> omega)
                have o234287a : ((xap B n q d)).1 = xac d (xwho B n q d) (xwho B n (xN B n (xN B n q)) d) := by rw [o234287]
                have o234287b : ((xap B n q d)).2.1 = (xN B n (xN B n q)) := by rw [o234287]
                have o234287c : ((xap B n q d)).2.2 = (xN B n (xN B n q)) := by rw [o234287]
                have _l := @xdap_v B n q d
                exact wp_zreturn e34 c34_67 rfl (by omega) ⟨rfl, w234268, f234276, z234270, rfl, ⟨by omega, by omega⟩, (Or.inr ⟨by omega, by omega, by omega, by omega, by omega⟩)⟩
              · refine wp_of e34 c34_46 (rw_aload_n (pc' := 47) (v := .ref r1) rfl rfl rfl ?_)
                refine wp_of e34 c34_47 (xg_R (pc' := 50) lf_1_143 w234243 g1 sh_27 (by decide) (by decide) ty_27_0 rfl rfl (fun r234288 q234289 g234290 => ?_))
                refine wp_of e34 c34_50 (rw_iload_n (pc' := 51) (z := z234172) rfl rfl ?_)
                refine wp_of e34 c34_51 (xa_R (pc' := 52) (by decide) w234243 g234290 sh_28 (by decide) (ty_28 _) (by omega) (by omega) rfl (fun r234291 q234292 g234293 => ?_))
                have h234294 : DG T H234239 r1 d (xM d) := (DG_fr w234215 g1 f234244 rfl (DG_fr w234199 g1 f234216 rfl (DG_fr w234170 g1 f234200 rfl (DG_fr hW g1 f234171 rfl h234163))))
                have := DG_at (s := z234245) h234294 q234289 q234292 (by omega) (by omega) (by omega)
                refine wp_of e34 c34_52 (xg_I (pc' := 55) lf_1_214 w234243 g234293 sh_35 (by decide) (by decide) ty_35_14 rfl rfl (fun b234295 b234296 => ?_))
                refine wp_of e34 c34_55 (rw_iload_n (pc' := 56) (z := z234245) rfl rfl ?_)
                refine wp_of e34 c34_56 (xc_S (pc' := 59) (as := [vI (H234239 r234291 14), vI z234245]) (st := []) (lm_1_217) rfl rfl (Nat.le_of_ble_eq_true rfl) rfl (by decide) (u_36  w234243 ⟨by omega, by omega⟩ ⟨by omega, by omega⟩) (fun R234297 T234298 H234299 p234300 => ?_))
                obtain ⟨e234301, e234303, z234304, e234302, b234305, p234306⟩ := p234300
                subst e234301
                subst e234302
                subst e234303
                rcases p234306 with ⟨a234307, a234308⟩ | ⟨a234309, a234310⟩
                · show wp _ _ 34 59 [(3, vI z234245), (2, vI z234172), (0, .ref r0), (1, .ref r1)] [vI z234304] _ H234239 _
                  refine wp_of e34 c34_59 (rw_if_eq (p1 := 68) (p2 := 62) (by decide) rfl ⟨by omega, by omega⟩ (fun c234311 => ?_) (fun c234311 => ?_))
                  · exfalso
                    omega
                  · refine wp_of e34 c34_62 (rw_aload_n (pc' := 63) (v := .ref r0) rfl rfl rfl ?_)
                    refine wp_of e34 c34_63 (rw_iconst (pc' := 64) rfl ?_)
                    have k234312 : H234239 r0 0 = H234211 r0 0 := (f234244 r0 0 _ g0 rfl)
                    have q234313 : H234239 r0 0 = (tk : Int) := k234312.trans q234233
                    have k234314 : H234239 tk 4 = H234211 tk 4 := (f234244 tk 4 _ gtk rfl)
                    refine wp_of e34 c34_64 (xc_V (pc' := 67) (r := r0) (as := [vI 3]) (st := []) (lm_1_47) rfl rfl (Nat.le_of_ble_eq_true rfl) w234243 g0 sh_3 (by decide) rfl (by decide) (u_20  w234243 g0 ⟨by omega, by omega⟩ q234313 gtk) (fun R234315 T234316 H234317 p234318 => ?_))
                    obtain ⟨e234319, w234321, f234322, z234323, e234320, b234324, p234325⟩ := p234318
                    subst e234319
                    subst e234320
                    obtain ⟨a234326, a234327, a234328⟩ := p234325
                    have f234329 := f234256.tr f234322 rfl
                    show wp _ _ 34 67 [(3, vI z234245), (2, vI z234172), (0, .ref r0), (1, .ref r1)] [vI z234323] _ H234317 _
                    have k234330 : H234317 r1 7 = H r1 7 := ((f234322 r1 7 _ g1 rfl).trans ((f234244 r1 7 _ g1 rfl).trans ((f234216 r1 7 _ g1 rfl).trans ((f234200 r1 7 _ g1 rfl).trans (f234171 r1 7 _ g1 rfl)))))
                    have k234331 : H234317 r1 8 = H r1 8 := ((f234322 r1 8 _ g1 rfl).trans ((f234244 r1 8 _ g1 rfl).trans ((f234216 r1 8 _ g1 rfl).trans ((f234200 r1 8 _ g1 rfl).trans (f234171 r1 8 _ g1 rfl)))))
                    have k234332 : H234317 r1 9 = H r1 9 := ((f234322 r1 9 _ g1 rfl).trans ((f234244 r1 9 _ g1 rfl).trans ((f234216 r1 9 _ g1 rfl).trans ((f234200 r1 9 _ g1 rfl).trans (f234171 r1 9 _ g1 rfl)))))
                    have k234333 : H234317 r1 10 = H r1 10 := ((f234322 r1 10 _ g1 rfl).trans ((f234244 r1 10 _ g1 rfl).trans ((f234216 r1 10 _ g1 rfl).trans ((f234200 r1 10 _ g1 rfl).trans (f234171 r1 10 _ g1 rfl)))))
                    have k234334 : H234317 r1 11 = H r1 11 := ((f234322 r1 11 _ g1 rfl).trans ((f234244 r1 11 _ g1 rfl).trans ((f234216 r1 11 _ g1 rfl).trans ((f234200 r1 11 _ g1 rfl).trans (f234171 r1 11 _ g1 rfl)))))
                    have k234335 : H234317 r1 12 = H r1 12 := ((f234322 r1 12 _ g1 rfl).trans ((f234244 r1 12 _ g1 rfl).trans ((f234216 r1 12 _ g1 rfl).trans ((f234200 r1 12 _ g1 rfl).trans (f234171 r1 12 _ g1 rfl)))))
                    have k234336 : H234317 r1 13 = H r1 13 := ((f234322 r1 13 _ g1 rfl).trans ((f234244 r1 13 _ g1 rfl).trans ((f234216 r1 13 _ g1 rfl).trans ((f234200 r1 13 _ g1 rfl).trans (f234171 r1 13 _ g1 rfl)))))
                    have k234337 : H234317 r1 14 = H r1 14 := ((f234322 r1 14 _ g1 rfl).trans ((f234244 r1 14 _ g1 rfl).trans ((f234216 r1 14 _ g1 rfl).trans ((f234200 r1 14 _ g1 rfl).trans (f234171 r1 14 _ g1 rfl)))))
                    have k234338 : H234317 r1 15 = H r1 15 := ((f234322 r1 15 _ g1 rfl).trans ((f234244 r1 15 _ g1 rfl).trans ((f234216 r1 15 _ g1 rfl).trans ((f234200 r1 15 _ g1 rfl).trans (f234171 r1 15 _ g1 rfl)))))
                    have k234339 : H234317 r1 16 = H r1 16 := ((f234322 r1 16 _ g1 rfl).trans ((f234244 r1 16 _ g1 rfl).trans ((f234216 r1 16 _ g1 rfl).trans ((f234200 r1 16 _ g1 rfl).trans (f234171 r1 16 _ g1 rfl)))))
                    have o234340 : (xap B n q d) = (xac d (xwho B n q d) (xwho B n (xN B n (xN B n q)) d), (xN B n (xN B n q)), (xN B n (xN B n q))) := by
                      unfold xap
                      repeat first | rw [xs_0 (by omega)] | rw [xs_1 (by omega)] | rw [if_pos (by omega)] | rw [if_neg (by omega)]
                      first | done | rfl | assumption | (exfalso; omega) | (refine Prod.ext ?_ (Prod.ext ?_ ?_) <;> (try dsimp only) <;> omega)
                    have o234340a : ((xap B n q d)).1 = xac d (xwho B n q d) (xwho B n (xN B n (xN B n q)) d) := by rw [o234340]
                    have o234340b : ((xap B n q d)).2.1 = (xN B n (xN B n q)) := by rw [o234340]
                    have o234340c : ((xap B n q d)).2.2 = (xN B n (xN B n q)) := by rw [o234340]
                    have _l := @xdap_v B n q d
                    exact wp_zreturn e34 c34_67 rfl (by omega) ⟨rfl, w234321, f234329, z234323, rfl, ⟨by omega, by omega⟩, (Or.inr ⟨by omega, by omega, by omega, by omega, by omega⟩)⟩
                · show wp _ _ 34 59 [(3, vI z234245), (2, vI z234172), (0, .ref r0), (1, .ref r1)] [vI z234304] _ H234239 _
                  refine wp_of e34 c34_59 (rw_if_eq (p1 := 68) (p2 := 62) (by decide) rfl ⟨by omega, by omega⟩ (fun c234341 => ?_) (fun c234341 => ?_))
                  · refine wp_of e34 c34_68 (rw_aload_n (pc' := 69) (v := .ref r0) rfl rfl rfl ?_)
                    have k234342 : H234239 r0 0 = H234211 r0 0 := (f234244 r0 0 _ g0 rfl)
                    have q234343 : H234239 r0 0 = (tk : Int) := k234342.trans q234233
                    refine wp_of e34 c34_69 (xg_K (pc' := 72) lf_1_12 w234243 g0 sh_3 (by decide) (by decide) rfl q234343 rfl ?_)
                    have k234344 : H234239 tk 0 = H234211 tk 0 := (f234244 tk 0 _ gtk rfl)
                    have q234345 : H234239 tk 0 = (rb : Int) := k234344.trans q234235
                    have k234346 : H234239 tk 1 = H234211 tk 1 := (f234244 tk 1 _ gtk rfl)
                    have k234347 : H234239 tk 2 = H234211 tk 2 := (f234244 tk 2 _ gtk rfl)
                    have h234348 : TP T H234239 rb B := (TP_fr w234215 grb f234244 rfl (TP_fr w234199 grb f234216 rfl (TP_fr w234170 grb f234200 rfl h234192)))
                    refine wp_of e34 c34_72 (xc_V (pc' := 75) (r := tk) (as := []) (st := []) (lm_1_74) rfl rfl (Nat.le_of_ble_eq_true rfl) w234243 gtk sh_4 (by decide) rfl (by decide) (u_16 (B := B) (n := n) (a := (xE B n ((xN B n ((xN B n q)))))) (q := (xN B n ((xN B n ((xN B n q)))))) w234243 gtk q234345 grb (by omega) (by omega) (by omega) (rfl) h234348) (fun R234349 T234350 H234351 p234352 => ?_))
                    obtain ⟨e234353, w234355, f234356, e234354, p234357⟩ := p234352
                    subst e234353
                    subst e234354
                    have f234359 := f234256.tr f234356 rfl
                    show wp _ _ 34 75 [(3, vI z234245), (2, vI z234172), (0, .ref r0), (1, .ref r1)] [] _ H234351 _
                    have u234360 := TC_k p234357
                    refine wp_of e34 c34_75 (rw_aload_n (pc' := 76) (v := .ref r1) rfl rfl rfl ?_)
                    have k234361 : H234351 r1 0 = H234239 r1 0 := (f234356 r1 0 _ g1 rfl)
                    have q234362 : H234351 r1 0 = (r234288 : Int) := k234361.trans q234289
                    refine wp_of e34 c34_76 (xg_K (pc' := 79) lf_1_143 w234355 g1 sh_27 (by decide) (by decide) rfl q234362 rfl ?_)
                    refine wp_of e34 c34_79 (rw_iload_n (pc' := 80) (z := z234172) rfl rfl ?_)
                    have k234363 : H234351 r234288 (z234172.toNat) = H234239 r234288 (z234172.toNat) := (f234356 r234288 (z234172.toNat) _ g234290 rfl)
                    have q234364 : H234351 r234288 (z234172.toNat) = (r234291 : Int) := k234363.trans q234292
                    refine wp_of e34 c34_80 (xa_K (pc' := 81) (by decide) w234355 g234290 sh_28 (by decide) (by omega) (by omega) q234364 rfl ?_)
                    have h234365 : DG T H234351 r1 d (xM d) := (DG_fr w234243 g1 f234356 rfl h234294)
                    have := DG_at (s := z234245) h234365 q234362 q234364 (by omega) (by omega) (by omega)
                    refine wp_of e34 c34_81 (rw_dup (pc' := 82) rfl rfl ?_)
                    have k234366 : H234351 r234291 14 = H234239 r234291 14 := (f234356 r234291 14 _ g234293 rfl)
                    refine wp_of e34 c34_82 (xg_I (pc' := 85) lf_1_214 w234355 g234293 sh_35 (by decide) (by decide) ty_35_14 rfl rfl (fun b234367 b234368 => ?_))
                    refine wp_of e34 c34_85 (rw_iconst (pc' := 86) rfl ?_)
                    refine wp_of e34 c34_86 (rw_iload_n (pc' := 87) (z := z234245) rfl rfl ?_)
                    refine wp_of e34 c34_87 (rw_ishl (pc' := 88) rfl ?_)
                    obtain ⟨v234369, e234370⟩ : ∃ x : Int, x = wq_shl 1 z234245 := ⟨_, rfl⟩
                    rw [← e234370]
                    have b234371 : 1 ≤ v234369 ∧ v234369 ≤ 64 := by
                      rw [e234370]
                      exact wq_shl1_6 ⟨by omega, by omega⟩
                    refine wp_of e34 c34_88 (rw_ior (pc' := 89) rfl ?_)
                    obtain ⟨v234372, e234373⟩ : ∃ x : Int, x = wq_or (H234351 r234291 14) v234369 := ⟨_, rfl⟩
                    rw [← e234373]
                    have b234374 : -2147483648 ≤ v234372 ∧ v234372 ≤ 2147483647 := by
                      rw [e234373]
                      exact wI_or _ _
                    have h234375 : DD T H234351 r1  := (DD_fr w234243 g1 f234356 rfl (DD_fr w234215 g1 f234244 rfl (DD_fr w234199 g1 f234216 rfl (DD_fr w234170 g1 f234200 rfl (DD_fr hW g1 f234171 rfl hDD_r1)))))
                    have o234376 : v234372 = wq_or (H234351 r234291 14) (wq_shl 1 z234245) := by
                      subst_vars
                      rfl
                    refine wp_of e34 c34_89 (xp_I (pc' := 92) lf_1_214 w234355 g234293 sh_35 (by decide) (by decide) ty_35_14 rfl rfl (by omega) (by omega) ⟨by omega, by omega⟩ rfl (fun H234377 e234378 w234379 => ?_))
                    have f234380 := f234359.put' e234378 g234293 rfl
                    have k234381 : H234377 r234291 14 = v234372 := wq_u_s e234378
                    have h234382 : DG T H234377 r1 d (wq_u (xM d) (z234172).toNat (z234245).toNat 1) := DG_put (s := z234245) w234355 g1 h234365 h234375 q234362 q234364 g234293 (by omega) (by omega) (by omega) (by omega) e234378 o234376
                    refine wp_of e34 c34_92 (rw_aload_n (pc' := 93) (v := .ref r1) rfl rfl rfl ?_)
                    have k234383 : H234377 r1 0 = H234351 r1 0 := (wq_u_t e234378 g234293 g1 rfl 0)
                    have q234384 : H234377 r1 0 = (r234288 : Int) := k234383.trans q234362
                    refine wp_of e34 c34_93 (xg_K (pc' := 96) lf_1_143 w234379 g1 sh_27 (by decide) (by decide) rfl q234384 rfl ?_)
                    refine wp_of e34 c34_96 (rw_iload_n (pc' := 97) (z := z234245) rfl rfl ?_)
                    refine wp_of e34 c34_97 (xa_R (pc' := 98) (by decide) w234379 g234290 sh_28 (by decide) (ty_28 _) (by omega) (by omega) rfl (fun r234385 q234386 g234387 => ?_))
                    have := DG_at (s := z234245) h234382 q234384 q234386 (by omega) (by omega) (by omega)
                    refine wp_of e34 c34_98 (rw_dup (pc' := 99) rfl rfl ?_)
                    refine wp_of e34 c34_99 (xg_I (pc' := 102) lf_1_214 w234379 g234387 sh_35 (by decide) (by decide) ty_35_14 rfl rfl (fun b234388 b234389 => ?_))
                    refine wp_of e34 c34_102 (rw_iconst (pc' := 103) rfl ?_)
                    refine wp_of e34 c34_103 (rw_iload_n (pc' := 104) (z := z234172) rfl rfl ?_)
                    refine wp_of e34 c34_104 (rw_ishl (pc' := 105) rfl ?_)
                    obtain ⟨v234390, e234391⟩ : ∃ x : Int, x = wq_shl 1 z234172 := ⟨_, rfl⟩
                    rw [← e234391]
                    have b234392 : 1 ≤ v234390 ∧ v234390 ≤ 64 := by
                      rw [e234391]
                      exact wq_shl1_6 ⟨by omega, by omega⟩
                    refine wp_of e34 c34_105 (rw_ior (pc' := 106) rfl ?_)
                    obtain ⟨v234393, e234394⟩ : ∃ x : Int, x = wq_or (H234377 r234385 14) v234390 := ⟨_, rfl⟩
                    rw [← e234394]
                    have b234395 : -2147483648 ≤ v234393 ∧ v234393 ≤ 2147483647 := by
                      rw [e234394]
                      exact wI_or _ _
                    have h234396 : DD T H234377 r1  := (DD_fr w234355 g1 ((wfr.rf (l := [(35, 14)])).put' e234378 g234293 rfl) rfl h234375)
                    have o234397 : v234393 = wq_or (H234377 r234385 14) (wq_shl 1 z234172) := by
                      subst_vars
                      rfl
                    refine wp_of e34 c34_106 (xp_I (pc' := 109) lf_1_214 w234379 g234387 sh_35 (by decide) (by decide) ty_35_14 rfl rfl (by omega) (by omega) ⟨by omega, by omega⟩ rfl (fun H234398 e234399 w234400 => ?_))
                    have f234401 := f234380.put' e234399 g234387 rfl
                    have k234402 : H234398 r234385 14 = v234393 := wq_u_s e234399
                    have h234403 : DG T H234398 r1 d (wq_u (wq_u (xM d) (z234172).toNat (z234245).toNat 1) (z234245).toNat (z234172).toNat 1) := DG_put (s := z234172) w234379 g1 h234382 h234396 q234384 q234386 g234387 (by omega) (by omega) (by omega) (by omega) e234399 o234397
                    refine wp_of e34 c34_109 (rw_aload_n (pc' := 110) (v := .ref r1) rfl rfl rfl ?_)
                    refine wp_of e34 c34_110 (rw_dup (pc' := 111) rfl rfl ?_)
                    have k234404 : H234398 r1 11 = H r1 11 := ((wq_u_t e234399 g234387 g1 rfl 11).trans ((wq_u_t e234378 g234293 g1 rfl 11).trans ((f234356 r1 11 _ g1 rfl).trans ((f234244 r1 11 _ g1 rfl).trans ((f234216 r1 11 _ g1 rfl).trans ((f234200 r1 11 _ g1 rfl).trans (f234171 r1 11 _ g1 rfl)))))))
                    refine wp_of e34 c34_111 (xg_I (pc' := 114) lf_1_221 w234400 g1 sh_27 (by decide) (by decide) ty_27_11 rfl rfl (fun b234405 b234406 => ?_))
                    refine wp_of e34 c34_114 (rw_iconst (pc' := 115) rfl ?_)
                    refine wp_of e34 c34_115 (rw_iaddw (pc' := 116) rfl ?_)
                    obtain ⟨v234407, e234408⟩ : ∃ x : Int, x = wq_w ((H234398 r1 11) + 1) := ⟨_, rfl⟩
                    rw [← e234408]
                    have b234409 : -2147483648 ≤ v234407 ∧ v234407 ≤ 2147483647 := by
                      rw [e234408]
                      exact wI_w _
                    have b234410 : (-2147483648 ≤ (H234398 r1 11) + 1 ∧ (H234398 r1 11) + 1 ≤ 2147483647) → v234407 = (H234398 r1 11) + 1 := fun h => by rw [e234408]; exact wq_w_id h
                    refine wp_of e34 c34_116 (xp_I (pc' := 119) lf_1_221 w234400 g1 sh_27 (by decide) (by decide) ty_27_11 rfl rfl (by omega) (by omega) ⟨by omega, by omega⟩ rfl (fun H234411 e234412 w234413 => ?_))
                    have f234414 := f234401.put' e234412 g1 rfl
                    have k234415 : H234411 r1 11 = v234407 := wq_u_s e234412
                    refine wp_of e34 c34_119 (rw_iconst (pc' := 120) rfl ?_)
                    have k234416 : H234411 r1 7 = H r1 7 := ((wq_u_j e234412 rfl).trans ((wq_u_t e234399 g234387 g1 rfl 7).trans ((wq_u_t e234378 g234293 g1 rfl 7).trans ((f234356 r1 7 _ g1 rfl).trans ((f234244 r1 7 _ g1 rfl).trans ((f234216 r1 7 _ g1 rfl).trans ((f234200 r1 7 _ g1 rfl).trans (f234171 r1 7 _ g1 rfl))))))))
                    have k234417 : H234411 r1 8 = H r1 8 := ((wq_u_j e234412 rfl).trans ((wq_u_t e234399 g234387 g1 rfl 8).trans ((wq_u_t e234378 g234293 g1 rfl 8).trans ((f234356 r1 8 _ g1 rfl).trans ((f234244 r1 8 _ g1 rfl).trans ((f234216 r1 8 _ g1 rfl).trans ((f234200 r1 8 _ g1 rfl).trans (f234171 r1 8 _ g1 rfl))))))))
                    have k234418 : H234411 r1 9 = H r1 9 := ((wq_u_j e234412 rfl).trans ((wq_u_t e234399 g234387 g1 rfl 9).trans ((wq_u_t e234378 g234293 g1 rfl 9).trans ((f234356 r1 9 _ g1 rfl).trans ((f234244 r1 9 _ g1 rfl).trans ((f234216 r1 9 _ g1 rfl).trans ((f234200 r1 9 _ g1 rfl).trans (f234171 r1 9 _ g1 rfl))))))))
                    have k234419 : H234411 r1 10 = H r1 10 := ((wq_u_j e234412 rfl).trans ((wq_u_t e234399 g234387 g1 rfl 10).trans ((wq_u_t e234378 g234293 g1 rfl 10).trans ((f234356 r1 10 _ g1 rfl).trans ((f234244 r1 10 _ g1 rfl).trans ((f234216 r1 10 _ g1 rfl).trans ((f234200 r1 10 _ g1 rfl).trans (f234171 r1 10 _ g1 rfl))))))))
                    have k234420 : H234411 r1 12 = H r1 12 := ((wq_u_j e234412 rfl).trans ((wq_u_t e234399 g234387 g1 rfl 12).trans ((wq_u_t e234378 g234293 g1 rfl 12).trans ((f234356 r1 12 _ g1 rfl).trans ((f234244 r1 12 _ g1 rfl).trans ((f234216 r1 12 _ g1 rfl).trans ((f234200 r1 12 _ g1 rfl).trans (f234171 r1 12 _ g1 rfl))))))))
                    have k234421 : H234411 r1 13 = H r1 13 := ((wq_u_j e234412 rfl).trans ((wq_u_t e234399 g234387 g1 rfl 13).trans ((wq_u_t e234378 g234293 g1 rfl 13).trans ((f234356 r1 13 _ g1 rfl).trans ((f234244 r1 13 _ g1 rfl).trans ((f234216 r1 13 _ g1 rfl).trans ((f234200 r1 13 _ g1 rfl).trans (f234171 r1 13 _ g1 rfl))))))))
                    have k234422 : H234411 r1 14 = H r1 14 := ((wq_u_j e234412 rfl).trans ((wq_u_t e234399 g234387 g1 rfl 14).trans ((wq_u_t e234378 g234293 g1 rfl 14).trans ((f234356 r1 14 _ g1 rfl).trans ((f234244 r1 14 _ g1 rfl).trans ((f234216 r1 14 _ g1 rfl).trans ((f234200 r1 14 _ g1 rfl).trans (f234171 r1 14 _ g1 rfl))))))))
                    have k234423 : H234411 r1 15 = H r1 15 := ((wq_u_j e234412 rfl).trans ((wq_u_t e234399 g234387 g1 rfl 15).trans ((wq_u_t e234378 g234293 g1 rfl 15).trans ((f234356 r1 15 _ g1 rfl).trans ((f234244 r1 15 _ g1 rfl).trans ((f234216 r1 15 _ g1 rfl).trans ((f234200 r1 15 _ g1 rfl).trans (f234171 r1 15 _ g1 rfl))))))))
                    have k234424 : H234411 r1 16 = H r1 16 := ((wq_u_j e234412 rfl).trans ((wq_u_t e234399 g234387 g1 rfl 16).trans ((wq_u_t e234378 g234293 g1 rfl 16).trans ((f234356 r1 16 _ g1 rfl).trans ((f234244 r1 16 _ g1 rfl).trans ((f234216 r1 16 _ g1 rfl).trans ((f234200 r1 16 _ g1 rfl).trans (f234171 r1 16 _ g1 rfl))))))))
                    have o234425 : (xap B n q d) = (0, q, (xN B n ((xN B n ((xN B n q)))))) := by
                      unfold xap
                      repeat first | rw [xs_0 (by omega)] | rw [xs_1 (by omega)] | rw [if_pos (by omega)] | rw [if_neg (by omega)]
                      first | done | rfl | assumption | (exfalso; omega) | (refine Prod.ext ?_ (Prod.ext ?_ ?_) <;> (try dsimp only) <;> omega)
                    have o234425a : ((xap B n q d)).1 = 0 := by rw [o234425]
                    have o234425b : ((xap B n q d)).2.1 = q := by rw [o234425]
                    have o234425c : ((xap B n q d)).2.2 = (xN B n ((xN B n ((xN B n q))))) := by rw [o234425]
                    have _l := @xdap_v B n q d
                    have h234426 : TC T H234411 tk B n (xN B n ((xN B n ((xN B n q))))) := (TC_fr w234400 gtk ((wfr.rf (l := [(27, 11)])).put' e234412 g1 rfl) rfl (TC_fr w234379 gtk ((wfr.rf (l := [(35, 14)])).put' e234399 g234387 rfl) rfl (TC_fr w234355 gtk ((wfr.rf (l := [(35, 14)])).put' e234378 g234293 rfl) rfl p234357)))
                    have h234427 : DG T H234411 r1 d (wq_u (wq_u (xM d) (z234172).toNat (z234245).toNat 1) (z234245).toNat (z234172).toNat 1) := (DG_fr w234400 g1 ((wfr.rf (l := [(27, 11)])).put' e234412 g1 rfl) rfl h234403)
                    have h234428 : ST T H234411 r1 (d 13) := (ST_fr w234400 g1 ((wfr.rf (l := [(27, 11)])).put' e234412 g1 rfl) rfl (ST_fr w234379 g1 ((wfr.rf (l := [(35, 14)])).put' e234399 g234387 rfl) rfl (ST_fr w234355 g1 ((wfr.rf (l := [(35, 14)])).put' e234378 g234293 rfl) rfl (ST_fr w234243 g1 f234356 rfl (ST_fr w234215 g1 f234244 rfl (ST_fr w234199 g1 f234216 rfl (ST_fr w234170 g1 f234200 rfl (ST_fr hW g1 f234171 rfl h234157))))))))
                    have h234429 : SV T H234411 r1 (d 13) 24 := (SV_fr w234400 g1 ((wfr.rf (l := [(27, 11)])).put' e234412 g1 rfl) rfl (SV_fr w234379 g1 ((wfr.rf (l := [(35, 14)])).put' e234399 g234387 rfl) rfl (SV_fr w234355 g1 ((wfr.rf (l := [(35, 14)])).put' e234378 g234293 rfl) rfl (SV_fr w234243 g1 f234356 rfl (SV_fr w234215 g1 f234244 rfl (SV_fr w234199 g1 f234216 rfl (SV_fr w234170 g1 f234200 rfl (SV_fr hW g1 f234171 rfl h234158))))))))
                    have h234430 : DA3 T H234411 r1 (d 0 5) (d 12) := (DA3_fr w234400 g1 ((wfr.rf (l := [(27, 11)])).put' e234412 g1 rfl) rfl (DA3_fr w234379 g1 ((wfr.rf (l := [(35, 14)])).put' e234399 g234387 rfl) rfl (DA3_fr w234355 g1 ((wfr.rf (l := [(35, 14)])).put' e234378 g234293 rfl) rfl (DA3_fr w234243 g1 f234356 rfl (DA3_fr w234215 g1 f234244 rfl (DA3_fr w234199 g1 f234216 rfl (DA3_fr w234170 g1 f234200 rfl (DA3_fr hW g1 f234171 rfl h234159))))))))
                    have h234431 : DA4 T H234411 r1 (d 0 6) (d 14) := (DA4_fr w234400 g1 ((wfr.rf (l := [(27, 11)])).put' e234412 g1 rfl) rfl (DA4_fr w234379 g1 ((wfr.rf (l := [(35, 14)])).put' e234399 g234387 rfl) rfl (DA4_fr w234355 g1 ((wfr.rf (l := [(35, 14)])).put' e234378 g234293 rfl) rfl (DA4_fr w234243 g1 f234356 rfl (DA4_fr w234215 g1 f234244 rfl (DA4_fr w234199 g1 f234216 rfl (DA4_fr w234170 g1 f234200 rfl (DA4_fr hW g1 f234171 rfl h234160))))))))
                    have h234432 : DA5 T H234411 r1 (d 0 6) (d 15) := (DA5_fr w234400 g1 ((wfr.rf (l := [(27, 11)])).put' e234412 g1 rfl) rfl (DA5_fr w234379 g1 ((wfr.rf (l := [(35, 14)])).put' e234399 g234387 rfl) rfl (DA5_fr w234355 g1 ((wfr.rf (l := [(35, 14)])).put' e234378 g234293 rfl) rfl (DA5_fr w234243 g1 f234356 rfl (DA5_fr w234215 g1 f234244 rfl (DA5_fr w234199 g1 f234216 rfl (DA5_fr w234170 g1 f234200 rfl (DA5_fr hW g1 f234171 rfl h234161))))))))
                    have h234433 : DA6 T H234411 r1 (d 0 7) (d 16) := (DA6_fr w234400 g1 ((wfr.rf (l := [(27, 11)])).put' e234412 g1 rfl) rfl (DA6_fr w234379 g1 ((wfr.rf (l := [(35, 14)])).put' e234399 g234387 rfl) rfl (DA6_fr w234355 g1 ((wfr.rf (l := [(35, 14)])).put' e234378 g234293 rfl) rfl (DA6_fr w234243 g1 f234356 rfl (DA6_fr w234215 g1 f234244 rfl (DA6_fr w234199 g1 f234216 rfl (DA6_fr w234170 g1 f234200 rfl (DA6_fr hW g1 f234171 rfl h234162))))))))
                    exact wp_zreturn e34 c34_120 rfl (by omega) ⟨rfl, w234413, f234414, 1, rfl, ⟨by omega, by omega⟩, (Or.inl ⟨by omega, by omega, o234425, by omega, h234426, DC_mk ⟨by omega, by omega, by omega, by omega, by omega, by omega, by omega, by omega, by omega, by omega, by omega, by omega, by omega, by omega, by omega, by omega⟩ (DQ_ap hDC_r1.2.1 (by omega) (show xwho B n q d = z234172 by omega) (show xwho B n (xN B n (xN B n q)) d = z234245 by omega) (by omega) (by omega) (by omega) (by omega) h234427) h234428 h234429 h234430 h234431 h234432 h234433 ⟨rfl, rfl, rfl, rfl, rfl⟩ ⟨by omega, by omega, by omega⟩⟩)⟩
                  · exfalso
                    omega
            · exfalso
              omega
          · have f234434 := f234229.tr f234244 rfl
            show wp _ _ 34 34 [(2, vI z234172), (0, .ref r0), (1, .ref r1)] [vI z234245] _ H234239 _
            refine wp_of e34 c34_34 (rw_istore_n (pc' := 35) (z := z234245) (L' := [(3, vI z234245), (2, vI z234172), (0, .ref r0), (1, .ref r1)]) rfl rfl rfl ?_)
            refine wp_of e34 c34_35 (rw_iload_n (pc' := 36) (z := z234245) rfl rfl ?_)
            refine wp_of e34 c34_36 (rw_if_ge (p1 := 41) (p2 := 39) (by decide) rfl ⟨by omega, by omega⟩ (fun c234435 => ?_) (fun c234435 => ?_))
            · exfalso
              omega
            · refine wp_of e34 c34_39 (rw_iconst (pc' := 40) rfl ?_)
              have k234436 : H234239 r1 7 = H r1 7 := ((f234244 r1 7 _ g1 rfl).trans ((f234216 r1 7 _ g1 rfl).trans ((f234200 r1 7 _ g1 rfl).trans (f234171 r1 7 _ g1 rfl))))
              have k234437 : H234239 r1 8 = H r1 8 := ((f234244 r1 8 _ g1 rfl).trans ((f234216 r1 8 _ g1 rfl).trans ((f234200 r1 8 _ g1 rfl).trans (f234171 r1 8 _ g1 rfl))))
              have k234438 : H234239 r1 9 = H r1 9 := ((f234244 r1 9 _ g1 rfl).trans ((f234216 r1 9 _ g1 rfl).trans ((f234200 r1 9 _ g1 rfl).trans (f234171 r1 9 _ g1 rfl))))
              have k234439 : H234239 r1 10 = H r1 10 := ((f234244 r1 10 _ g1 rfl).trans ((f234216 r1 10 _ g1 rfl).trans ((f234200 r1 10 _ g1 rfl).trans (f234171 r1 10 _ g1 rfl))))
              have k234440 : H234239 r1 11 = H r1 11 := ((f234244 r1 11 _ g1 rfl).trans ((f234216 r1 11 _ g1 rfl).trans ((f234200 r1 11 _ g1 rfl).trans (f234171 r1 11 _ g1 rfl))))
              have k234441 : H234239 r1 12 = H r1 12 := ((f234244 r1 12 _ g1 rfl).trans ((f234216 r1 12 _ g1 rfl).trans ((f234200 r1 12 _ g1 rfl).trans (f234171 r1 12 _ g1 rfl))))
              have k234442 : H234239 r1 13 = H r1 13 := ((f234244 r1 13 _ g1 rfl).trans ((f234216 r1 13 _ g1 rfl).trans ((f234200 r1 13 _ g1 rfl).trans (f234171 r1 13 _ g1 rfl))))
              have k234443 : H234239 r1 14 = H r1 14 := ((f234244 r1 14 _ g1 rfl).trans ((f234216 r1 14 _ g1 rfl).trans ((f234200 r1 14 _ g1 rfl).trans (f234171 r1 14 _ g1 rfl))))
              have k234444 : H234239 r1 15 = H r1 15 := ((f234244 r1 15 _ g1 rfl).trans ((f234216 r1 15 _ g1 rfl).trans ((f234200 r1 15 _ g1 rfl).trans (f234171 r1 15 _ g1 rfl))))
              have k234445 : H234239 r1 16 = H r1 16 := ((f234244 r1 16 _ g1 rfl).trans ((f234216 r1 16 _ g1 rfl).trans ((f234200 r1 16 _ g1 rfl).trans (f234171 r1 16 _ g1 rfl))))
              have o234446 : (xap B n q d) = (xkn B n ((xN B n ((xN B n q)))) d, ((xN B n ((xN B n q)))), ((xN B n ((xN B n q))))) := by
                unfold xap
                repeat first | rw [xs_0 (by omega)] | rw [xs_1 (by omega)] | rw [if_pos (by omega)] | rw [if_neg (by omega)]
                first | done | rfl | assumption | (exfalso; omega) | (refine Prod.ext ?_ (Prod.ext ?_ ?_) <;> (try dsimp only) <;> omega)
              have o234446a : ((xap B n q d)).1 = xkn B n ((xN B n ((xN B n q)))) d := by rw [o234446]
              have o234446b : ((xap B n q d)).2.1 = ((xN B n ((xN B n q)))) := by rw [o234446]
              have o234446c : ((xap B n q d)).2.2 = ((xN B n ((xN B n q)))) := by rw [o234446]
              have _l := @xdap_v B n q d
              exact wp_zreturn e34 c34_40 rfl (by omega) ⟨rfl, w234243, f234434, 0, rfl, ⟨by omega, by omega⟩, (Or.inr ⟨by omega, by omega, by omega, by omega, by omega⟩)⟩
        · exfalso
          omega
      · have f234447 := f234203.tr f234216 rfl
        show wp _ _ 34 24 [(2, vI z234172), (0, .ref r0), (1, .ref r1)] [vI z234217] _ H234211 _
        refine wp_of e34 c34_24 (rw_if_ne (p1 := 29) (p2 := 27) (by decide) rfl ⟨by omega, by omega⟩ (fun c234448 => ?_) (fun c234448 => ?_))
        · exfalso
          omega
        · refine wp_of e34 c34_27 (rw_iconst (pc' := 28) rfl ?_)
          have k234449 : H234211 r1 7 = H r1 7 := ((f234216 r1 7 _ g1 rfl).trans ((f234200 r1 7 _ g1 rfl).trans (f234171 r1 7 _ g1 rfl)))
          have k234450 : H234211 r1 8 = H r1 8 := ((f234216 r1 8 _ g1 rfl).trans ((f234200 r1 8 _ g1 rfl).trans (f234171 r1 8 _ g1 rfl)))
          have k234451 : H234211 r1 9 = H r1 9 := ((f234216 r1 9 _ g1 rfl).trans ((f234200 r1 9 _ g1 rfl).trans (f234171 r1 9 _ g1 rfl)))
          have k234452 : H234211 r1 10 = H r1 10 := ((f234216 r1 10 _ g1 rfl).trans ((f234200 r1 10 _ g1 rfl).trans (f234171 r1 10 _ g1 rfl)))
          have k234453 : H234211 r1 11 = H r1 11 := ((f234216 r1 11 _ g1 rfl).trans ((f234200 r1 11 _ g1 rfl).trans (f234171 r1 11 _ g1 rfl)))
          have k234454 : H234211 r1 12 = H r1 12 := ((f234216 r1 12 _ g1 rfl).trans ((f234200 r1 12 _ g1 rfl).trans (f234171 r1 12 _ g1 rfl)))
          have k234455 : H234211 r1 13 = H r1 13 := ((f234216 r1 13 _ g1 rfl).trans ((f234200 r1 13 _ g1 rfl).trans (f234171 r1 13 _ g1 rfl)))
          have k234456 : H234211 r1 14 = H r1 14 := ((f234216 r1 14 _ g1 rfl).trans ((f234200 r1 14 _ g1 rfl).trans (f234171 r1 14 _ g1 rfl)))
          have k234457 : H234211 r1 15 = H r1 15 := ((f234216 r1 15 _ g1 rfl).trans ((f234200 r1 15 _ g1 rfl).trans (f234171 r1 15 _ g1 rfl)))
          have k234458 : H234211 r1 16 = H r1 16 := ((f234216 r1 16 _ g1 rfl).trans ((f234200 r1 16 _ g1 rfl).trans (f234171 r1 16 _ g1 rfl)))
          have o234459 : (xap B n q d) = (xk B n ((xN B n q)) 4, ((xN B n q)), ((xN B n q))) := by
            unfold xap
            repeat first | rw [xs_0 (by omega)] | rw [xs_1 (by omega)] | rw [if_pos (by omega)] | rw [if_neg (by omega)]
            first | done | rfl | assumption | (exfalso; omega) | (refine Prod.ext ?_ (Prod.ext ?_ ?_) <;> (try dsimp only) <;> omega)
          have o234459a : ((xap B n q d)).1 = xk B n ((xN B n q)) 4 := by rw [o234459]
          have o234459b : ((xap B n q d)).2.1 = ((xN B n q)) := by rw [o234459]
          have o234459c : ((xap B n q d)).2.2 = ((xN B n q)) := by rw [o234459]
          have _l := @xdap_v B n q d
          exact wp_zreturn e34 c34_28 rfl (by omega) ⟨rfl, w234215, f234447, 0, rfl, ⟨by omega, by omega⟩, (Or.inr ⟨by omega, by omega, by omega, by omega, by omega⟩)⟩
    · exfalso
      omega
  · have f234460 := f0.tr f234171 rfl
    show wp _ _ 34 5 [(0, .ref r0), (1, .ref r1)] [vI z234172] _ H234166 _
    refine wp_of e34 c34_5 (rw_istore_n (pc' := 6) (z := z234172) (L' := [(2, vI z234172), (0, .ref r0), (1, .ref r1)]) rfl rfl rfl ?_)
    refine wp_of e34 c34_6 (rw_iload_n (pc' := 7) (z := z234172) rfl rfl ?_)
    refine wp_of e34 c34_7 (rw_if_ge (p1 := 12) (p2 := 10) (by decide) rfl ⟨by omega, by omega⟩ (fun c234461 => ?_) (fun c234461 => ?_))
    · exfalso
      omega
    · refine wp_of e34 c34_10 (rw_iconst (pc' := 11) rfl ?_)
      have k234462 : H234166 r1 7 = H r1 7 := (f234171 r1 7 _ g1 rfl)
      have k234463 : H234166 r1 8 = H r1 8 := (f234171 r1 8 _ g1 rfl)
      have k234464 : H234166 r1 9 = H r1 9 := (f234171 r1 9 _ g1 rfl)
      have k234465 : H234166 r1 10 = H r1 10 := (f234171 r1 10 _ g1 rfl)
      have k234466 : H234166 r1 11 = H r1 11 := (f234171 r1 11 _ g1 rfl)
      have k234467 : H234166 r1 12 = H r1 12 := (f234171 r1 12 _ g1 rfl)
      have k234468 : H234166 r1 13 = H r1 13 := (f234171 r1 13 _ g1 rfl)
      have k234469 : H234166 r1 14 = H r1 14 := (f234171 r1 14 _ g1 rfl)
      have k234470 : H234166 r1 15 = H r1 15 := (f234171 r1 15 _ g1 rfl)
      have k234471 : H234166 r1 16 = H r1 16 := (f234171 r1 16 _ g1 rfl)
      have o234472 : (xap B n q d) = (xkn B n q d, q, q) := by
        unfold xap
        repeat first | rw [xs_0 (by omega)] | rw [xs_1 (by omega)] | rw [if_pos (by omega)] | rw [if_neg (by omega)]
        first | done | rfl | assumption | (exfalso; omega) | (refine Prod.ext ?_ (Prod.ext ?_ ?_) <;> (try dsimp only) <;> omega)
      have o234472a : ((xap B n q d)).1 = xkn B n q d := by rw [o234472]
      have o234472b : ((xap B n q d)).2.1 = q := by rw [o234472]
      have o234472c : ((xap B n q d)).2.2 = q := by rw [o234472]
      have _l := @xdap_v B n q d
      exact wp_zreturn e34 c34_11 rfl (by omega) ⟨rfl, w234170, f234460, 0, rfl, ⟨by omega, by omega⟩, (Or.inr ⟨by omega, by omega, by omega, by omega, by omega⟩)⟩
/-! StrikeAwake$Person.clear(J)V  -/
abbrev uq_28 (r0 : Nat) (a1 : Int) (T : wq_T) (H : wq_H) : Option Value → wq_T → wq_H → Prop := fun r T' H' => T = T' ∧ WT T H' ∧ wfr [(35, 6), (35, 11), (35, 12), (35, 13), (35, 14), (35, 15), (35, 16), (35, 17)] T H H' ∧ none = r ∧ (((H' r0 6 = a1) ∧ (H' r0 11 = -1) ∧ (H' r0 12 = 0) ∧ (H' r0 13 = 0) ∧ (H' r0 14 = 0) ∧ (∀ a, a ≠ r0 → T.2.2.2 a = some 35 → H' a = H a)))
set_option maxHeartbeats 4000000 in
theorem u_28 {kt : Nat → Option mc_E} {T : wq_T} {H : wq_H} {r0 : Nat} {a1 : Int} (hW : WT T H) (g0 : T.2.2.2 r0 = some 35) (i1 : (-9223372036854775808) ≤ a1 ∧ a1 ≤ 9223372036854775807) : wpc kt 1 28 [.ref r0, vL a1] T H (uq_28 r0 a1 T H) := by
  refine wp_enter e28 (Nat.le_of_ble_eq_true rfl) rfl ?_
  have f0 : wfr [(35, 6), (35, 11), (35, 12), (35, 13), (35, 14), (35, 15), (35, 16), (35, 17)] T H H := wfr.rf
  show wp _ _ 28 0 [(0, .ref r0), (1, vL a1)] [] _ H _
  refine wp_of e28 c28_0 (rw_aload_n (pc' := 1) (v := .ref r0) rfl rfl rfl ?_)
  refine wp_of e28 c28_1 (rw_lload_n (pc' := 2) (z := a1) rfl rfl ?_)
  refine wp_of e28 c28_2 (xp_L (pc' := 5) lf_8_31 hW g0 sh_35 (by decide) (by decide) ty_35_6 rfl rfl (by omega) (by omega) ⟨by omega, by omega⟩ rfl (fun H234513 e234514 w234515 => ?_))
  have f234516 := f0.put' e234514 g0 rfl
  have k234517 : H234513 r0 6 = a1 := wq_u_s e234514
  refine wp_of e28 c28_5 (rw_aload_n (pc' := 6) (v := .ref r0) rfl rfl rfl ?_)
  refine wp_of e28 c28_6 (rw_iconst (pc' := 7) rfl ?_)
  refine wp_of e28 c28_7 (xp_I (pc' := 10) lf_8_35 w234515 g0 sh_35 (by decide) (by decide) ty_35_11 rfl rfl (by omega) (by omega) ⟨by omega, by omega⟩ rfl (fun H234518 e234519 w234520 => ?_))
  have f234521 := f234516.put' e234519 g0 rfl
  have k234522 : H234518 r0 11 = -1 := wq_u_s e234519
  refine wp_of e28 c28_10 (rw_aload_n (pc' := 11) (v := .ref r0) rfl rfl rfl ?_)
  refine wp_of e28 c28_11 (rw_iconst (pc' := 12) rfl ?_)
  refine wp_of e28 c28_12 (xp_I (pc' := 15) lf_8_39 w234520 g0 sh_35 (by decide) (by decide) ty_35_12 rfl rfl (by omega) (by omega) ⟨by omega, by omega⟩ rfl (fun H234523 e234524 w234525 => ?_))
  have f234526 := f234521.put' e234524 g0 rfl
  have k234527 : H234523 r0 12 = 0 := wq_u_s e234524
  refine wp_of e28 c28_15 (rw_aload_n (pc' := 16) (v := .ref r0) rfl rfl rfl ?_)
  refine wp_of e28 c28_16 (rw_iconst (pc' := 17) rfl ?_)
  refine wp_of e28 c28_17 (xp_Z (pc' := 20) lf_8_42 w234525 g0 sh_35 (by decide) (by decide) ty_35_13 rfl rfl (by omega) (by omega) rfl (fun H234528 e234529 w234530 => ?_))
  have f234531 := f234526.put' e234529 g0 rfl
  have k234532 : H234528 r0 13 = 0 := wq_u_s e234529
  refine wp_of e28 c28_20 (rw_aload_n (pc' := 21) (v := .ref r0) rfl rfl rfl ?_)
  refine wp_of e28 c28_21 (rw_iconst (pc' := 22) rfl ?_)
  refine wp_of e28 c28_22 (xp_I (pc' := 25) lf_8_46 w234530 g0 sh_35 (by decide) (by decide) ty_35_14 rfl rfl (by omega) (by omega) ⟨by omega, by omega⟩ rfl (fun H234533 e234534 w234535 => ?_))
  have f234536 := f234531.put' e234534 g0 rfl
  have k234537 : H234533 r0 14 = 0 := wq_u_s e234534
  refine wp_of e28 c28_25 (rw_aload_n (pc' := 26) (v := .ref r0) rfl rfl rfl ?_)
  refine wp_of e28 c28_26 (rw_iconst (pc' := 27) rfl ?_)
  refine wp_of e28 c28_27 (xp_I (pc' := 30) lf_8_49 w234535 g0 sh_35 (by decide) (by decide) ty_35_15 rfl rfl (by omega) (by omega) ⟨by omega, by omega⟩ rfl (fun H234538 e234539 w234540 => ?_))
  have f234541 := f234536.put' e234539 g0 rfl
  have k234542 : H234538 r0 15 = 0 := wq_u_s e234539
  refine wp_of e28 c28_30 (rw_aload_n (pc' := 31) (v := .ref r0) rfl rfl rfl ?_)
  refine wp_of e28 c28_31 (rw_iconst (pc' := 32) rfl ?_)
  refine wp_of e28 c28_32 (xp_I (pc' := 35) lf_8_52 w234540 g0 sh_35 (by decide) (by decide) ty_35_16 rfl rfl (by omega) (by omega) ⟨by omega, by omega⟩ rfl (fun H234543 e234544 w234545 => ?_))
  have f234546 := f234541.put' e234544 g0 rfl
  have k234547 : H234543 r0 16 = 0 := wq_u_s e234544
  refine wp_of e28 c28_35 (rw_aload_n (pc' := 36) (v := .ref r0) rfl rfl rfl ?_)
  refine wp_of e28 c28_36 (rw_iconst (pc' := 37) rfl ?_)
  refine wp_of e28 c28_37 (xp_I (pc' := 40) lf_8_55 w234545 g0 sh_35 (by decide) (by decide) ty_35_17 rfl rfl (by omega) (by omega) ⟨by omega, by omega⟩ rfl (fun H234548 e234549 w234550 => ?_))
  have f234551 := f234546.put' e234549 g0 rfl
  have k234552 : H234548 r0 17 = 0 := wq_u_s e234549
  have k234553 : H234548 r0 6 = H234513 r0 6 := ((wq_u_j e234549 rfl).trans ((wq_u_j e234544 rfl).trans ((wq_u_j e234539 rfl).trans ((wq_u_j e234534 rfl).trans ((wq_u_j e234529 rfl).trans ((wq_u_j e234524 rfl).trans (wq_u_j e234519 rfl)))))))
  have k234554 : H234548 r0 11 = H234518 r0 11 := ((wq_u_j e234549 rfl).trans ((wq_u_j e234544 rfl).trans ((wq_u_j e234539 rfl).trans ((wq_u_j e234534 rfl).trans ((wq_u_j e234529 rfl).trans (wq_u_j e234524 rfl))))))
  have k234555 : H234548 r0 12 = H234523 r0 12 := ((wq_u_j e234549 rfl).trans ((wq_u_j e234544 rfl).trans ((wq_u_j e234539 rfl).trans ((wq_u_j e234534 rfl).trans (wq_u_j e234529 rfl)))))
  have k234556 : H234548 r0 13 = H234528 r0 13 := ((wq_u_j e234549 rfl).trans ((wq_u_j e234544 rfl).trans ((wq_u_j e234539 rfl).trans (wq_u_j e234534 rfl))))
  have k234557 : H234548 r0 14 = H234533 r0 14 := ((wq_u_j e234549 rfl).trans ((wq_u_j e234544 rfl).trans (wq_u_j e234539 rfl)))
  exact wp_return e28 c28_40 rfl ⟨rfl, w234550, f234551, rfl, ⟨by omega, by omega, by omega, by omega, by omega, (fun a ha ga => ((wq_u_nf e234549 ha).trans ((wq_u_nf e234544 ha).trans ((wq_u_nf e234539 ha).trans ((wq_u_nf e234534 ha).trans ((wq_u_nf e234529 ha).trans ((wq_u_nf e234524 ha).trans ((wq_u_nf e234519 ha).trans (wq_u_nf e234514 ha)))))))))⟩⟩
/-! StrikeAwake$Reader.readsPerson(LStrikeAwake$Parish;)Z  -/
abbrev uq_25 (r0 : Nat) (r1 : Nat) (tk : Nat) (rb : Nat) (B : Nat → Int) (n : Int) (q : Int) (d : xD) (T : wq_T) (H : wq_H) : Option Value → wq_T → wq_H → Prop := fun r T' H' => T = T' ∧ WT T H' ∧ wfr [(35, 6), (35, 7), (35, 8), (35, 9), (35, 10), (35, 11), (35, 12), (35, 13), (35, 14), (35, 15), (35, 16), (35, 17), (3, 1), (3, 2), (3, 3), (3, 4), (4, 2), (4, 3), (4, 4), (4, 5), (4, 6)] T H H' ∧ ∃ z : Int, some (vI z) = r ∧ (0 ≤ z ∧ z ≤ 1) ∧ (((z = 1) ∧ ((xbd B n q d).1 = 0) ∧ (q ≤ (xN B n (xN B n (xN B n (xN B n (xN B n (xN B n (xN B n (xN B n (xN B n q)))))))))) ∧ ((xbd B n q d).2.2 = (xN B n (xN B n (xN B n (xN B n (xN B n (xN B n (xN B n (xN B n (xN B n q)))))))))) ∧ TC T H' tk B n (xN B n (xN B n (xN B n (xN B n (xN B n (xN B n (xN B n (xN B n (xN B n q))))))))) ∧ DC T H' r1 d ∧ PK T H' r1 B n q d) ∨ ((z = 0) ∧ ((xbd B n q d).1 ≠ 0) ∧ ((xbd B n q d).2.2 = (xbd B n q d).2.1) ∧ (H' r0 3 = (xbd B n q d).1) ∧ (H' r0 4 = (xbd B n q d).2.1)))
set_option maxHeartbeats 4000000 in
theorem u_25 {kt : Nat → Option mc_E} {T : wq_T} {H : wq_H} {r0 : Nat} {r1 : Nat} {tk : Nat} {rb : Nat} {B : Nat → Int} {n : Int} {q : Int} {d : xD} (hW : WT T H) (g0 : T.2.2.2 r0 = some 3) (g1 : T.2.2.2 r1 = some 27) (qtk : H r0 0 = (tk : Int)) (gtk : T.2.2.2 tk = some 4) (qrb : H tk 0 = (rb : Int)) (grb : T.2.2.2 rb = some 2) (p0 : d 0 3 ≤ 5) (hTC_tk : TC T H tk B n q) (hDC_r1 : DC T H r1 d) (hDD_r1 : DD T H r1 ) : wpc kt 4 25 [.ref r0, .ref r1] T H (uq_25 r0 r1 tk rb B n q d T H) := by
  refine wp_enter e25 (Nat.le_of_ble_eq_true rfl) rfl ?_
  have f0 : wfr [(35, 6), (35, 7), (35, 8), (35, 9), (35, 10), (35, 11), (35, 12), (35, 13), (35, 14), (35, 15), (35, 16), (35, 17), (3, 1), (3, 2), (3, 3), (3, 4), (4, 2), (4, 3), (4, 4), (4, 5), (4, 6)] T H H := wfr.rf
  show wp _ _ 25 0 [(0, .ref r0), (1, .ref r1)] [] _ H _
  have u234814 := TC_k hTC_tk
  have u234815 := DC_k hDC_r1
  have h234816 : ST T H r1 (d 13) := hDC_r1.2.2.1
  have h234817 : SV T H r1 (d 13) 24 := hDC_r1.2.2.2.1
  have h234818 : DA3 T H r1 (d 0 5) (d 12) := hDC_r1.2.2.2.2.1
  have h234819 : DA4 T H r1 (d 0 6) (d 14) := hDC_r1.2.2.2.2.2.1
  have h234820 : DA5 T H r1 (d 0 6) (d 15) := hDC_r1.2.2.2.2.2.2.1
  have h234821 : DA6 T H r1 (d 0 7) (d 16) := hDC_r1.2.2.2.2.2.2.2
  have _i := TC_i hTC_tk
  have _x := @xre_b B n q
  have _m := @xnm_b B n q d
  refine wp_of e25 c25_0 (rw_aload_n (pc' := 1) (v := .ref r0) rfl rfl rfl ?_)
  refine wp_of e25 c25_1 (xc_V (pc' := 4) (r := r0) (as := []) (st := []) (lm_1_131) rfl rfl (Nat.le_of_ble_eq_true rfl) hW g0 sh_3 (by decide) rfl (by decide) (u_26 (B := B) (n := n) (q := q) hW g0 qtk gtk qrb grb hTC_tk) (fun R234822 T234823 H234824 p234825 => ?_))
  obtain ⟨e234826, e234828, z234829, e234827, b234830, p234831⟩ := p234825
  subst e234826
  subst e234827
  subst e234828
  rcases p234831 with ⟨a234832, a234833⟩ | ⟨a234834, a234835⟩
  · show wp _ _ 25 4 [(0, .ref r0), (1, .ref r1)] [vI z234829] _ H _
    refine wp_of e25 c25_4 (rw_if_ne (p1 := 13) (p2 := 7) (by decide) rfl ⟨by omega, by omega⟩ (fun c234836 => ?_) (fun c234836 => ?_))
    · refine wp_of e25 c25_13 (rw_aload_n (pc' := 14) (v := .ref r1) rfl rfl rfl ?_)
      refine wp_of e25 c25_14 (rw_aload_n (pc' := 15) (v := .ref r0) rfl rfl rfl ?_)
      refine wp_of e25 c25_15 (xg_K (pc' := 18) lf_1_12 hW g0 sh_3 (by decide) (by decide) rfl qtk rfl ?_)
      refine wp_of e25 c25_18 (xg_L (pc' := 21) lf_1_135 hW gtk sh_4 (by decide) (by decide) ty_4_6 rfl rfl (fun b234837 b234838 => ?_))
      refine wp_of e25 c25_21 (xc_V (pc' := 24) (r := r1) (as := [vL (H tk 6)]) (st := []) (lm_1_139) rfl rfl (Nat.le_of_ble_eq_true rfl) hW g1 sh_27 (by decide) rfl (by decide) (u_27 (d := d) (y := (xY B n q)) hW g1 ⟨by omega, by omega⟩ (by omega) hDC_r1) (fun R234839 T234840 H234841 p234842 => ?_))
      obtain ⟨e234843, e234845, z234846, e234844, b234847, p234848⟩ := p234842
      subst e234843
      subst e234844
      subst e234845
      obtain ⟨a234849, a234850⟩ := p234848
      show wp _ _ 25 24 [(0, .ref r0), (1, .ref r1)] [vI z234846] _ H _
      refine wp_of e25 c25_24 (rw_if_lt (p1 := 33) (p2 := 27) (by decide) rfl ⟨by omega, by omega⟩ (fun c234851 => ?_) (fun c234851 => ?_))
      · refine wp_of e25 c25_33 (rw_aload_n (pc' := 34) (v := .ref r1) rfl rfl rfl ?_)
        refine wp_of e25 c25_34 (xg_R (pc' := 37) lf_1_143 hW g1 sh_27 (by decide) (by decide) ty_27_0 rfl rfl (fun r234852 q234853 g234854 => ?_))
        refine wp_of e25 c25_37 (rw_aload_n (pc' := 38) (v := .ref r1) rfl rfl rfl ?_)
        refine wp_of e25 c25_38 (xg_I (pc' := 41) lf_1_44 hW g1 sh_27 (by decide) (by decide) ty_27_10 rfl rfl (fun b234855 b234856 => ?_))
        refine wp_of e25 c25_41 (xa_R (pc' := 42) (by decide) hW g234854 sh_28 (by decide) (ty_28 _) (by omega) (by omega) rfl (fun r234857 q234858 g234859 => ?_))
        refine wp_of e25 c25_42 (rw_astore_n (pc' := 43) (v := .ref r234857) (L' := [(2, .ref r234857), (0, .ref r0), (1, .ref r1)]) rfl rfl rfl rfl ?_)
        refine wp_of e25 c25_43 (rw_aload_n (pc' := 44) (v := .ref r234857) rfl rfl rfl ?_)
        refine wp_of e25 c25_44 (rw_aload_n (pc' := 45) (v := .ref r0) rfl rfl rfl ?_)
        refine wp_of e25 c25_45 (xg_K (pc' := 48) lf_1_12 hW g0 sh_3 (by decide) (by decide) rfl qtk rfl ?_)
        refine wp_of e25 c25_48 (xg_L (pc' := 51) lf_1_135 hW gtk sh_4 (by decide) (by decide) ty_4_6 rfl rfl (fun b234860 b234861 => ?_))
        refine wp_of e25 c25_51 (xc_V (pc' := 54) (r := r234857) (as := [vL (H tk 6)]) (st := []) (lm_1_147) rfl rfl (Nat.le_of_ble_eq_true rfl) hW g234859 sh_35 (by decide) rfl (by decide) (u_28  hW g234859 ⟨by omega, by omega⟩) (fun R234862 T234863 H234864 p234865 => ?_))
        obtain ⟨e234866, w234868, f234869, e234867, p234870⟩ := p234865
        subst e234866
        subst e234867
        obtain ⟨a234871, a234872, a234873, a234874, a234875, a234876⟩ := p234870
        have f234877 := f0.tr f234869 rfl
        show wp _ _ 25 54 [(2, .ref r234857), (0, .ref r0), (1, .ref r1)] [] _ H234864 _
        refine wp_of e25 c25_54 (rw_aload_n (pc' := 55) (v := .ref r0) rfl rfl rfl ?_)
        have k234878 : H234864 r0 0 = H r0 0 := (f234869 r0 0 _ g0 rfl)
        have q234879 : H234864 r0 0 = (tk : Int) := k234878.trans qtk
        refine wp_of e25 c25_55 (xg_K (pc' := 58) lf_1_12 w234868 g0 sh_3 (by decide) (by decide) rfl q234879 rfl ?_)
        have k234880 : H234864 tk 0 = H tk 0 := (f234869 tk 0 _ gtk rfl)
        have q234881 : H234864 tk 0 = (rb : Int) := k234880.trans qrb
        have k234882 : H234864 tk 1 = H tk 1 := (f234869 tk 1 _ gtk rfl)
        have k234883 : H234864 tk 2 = H tk 2 := (f234869 tk 2 _ gtk rfl)
        have h234884 : TC T H234864 tk B n q := (TC_fr hW gtk f234869 rfl hTC_tk)
        have h234885 : TP T H234864 rb B := TC_tp h234884 q234881
        refine wp_of e25 c25_58 (xc_V (pc' := 61) (r := tk) (as := []) (st := []) (lm_1_74) rfl rfl (Nat.le_of_ble_eq_true rfl) w234868 gtk sh_4 (by decide) rfl (by decide) (u_16 (B := B) (n := n) (a := (xE B n q)) (q := (xN B n q)) w234868 gtk q234881 grb (by omega) (by omega) (by omega) (rfl) h234885) (fun R234886 T234887 H234888 p234889 => ?_))
        obtain ⟨e234890, w234892, f234893, e234891, p234894⟩ := p234889
        subst e234890
        subst e234891
        have f234896 := f234877.tr f234893 rfl
        show wp _ _ 25 61 [(2, .ref r234857), (0, .ref r0), (1, .ref r1)] [] _ H234888 _
        have u234897 := TC_k p234894
        refine wp_of e25 c25_61 (rw_aload_n (pc' := 62) (v := .ref r0) rfl rfl rfl ?_)
        refine wp_of e25 c25_62 (rw_ldcS (pc' := 64) (k := 67) rfl rfl rfl rfl ?_)
        have k234898 : H234888 r0 0 = H234864 r0 0 := (f234893 r0 0 _ g0 rfl)
        have q234899 : H234888 r0 0 = (tk : Int) := k234898.trans q234879
        have k234900 : H234888 tk 0 = H234864 tk 0 := (f234893 tk 0 _ gtk rfl)
        have q234901 : H234888 tk 0 = (rb : Int) := k234900.trans q234881
        refine wp_of e25 c25_64 (xc_V (pc' := 67) (r := r0) (as := [.ref 67]) (st := []) (lm_1_115) rfl rfl (Nat.le_of_ble_eq_true rfl) w234892 g0 sh_3 (by decide) rfl (by decide) (u_23 (B := B) (n := n) (q := ((xN B n q))) (kk := 2212) w234892 g0 rfl q234899 gtk q234901 grb (by decide +kernel) p234894) (fun R234902 T234903 H234904 p234905 => ?_))
        obtain ⟨e234906, w234908, f234909, z234910, e234907, b234911, p234912⟩ := p234905
        subst e234906
        subst e234907
        rcases p234912 with ⟨a234913, a234914, a234915⟩ | ⟨a234916, a234917, a234918, a234919⟩
        · have f234920 := f234896.tr f234909 rfl
          show wp _ _ 25 67 [(2, .ref r234857), (0, .ref r0), (1, .ref r1)] [vI z234910] _ H234904 _
          have u234921 := TC_k a234915
          refine wp_of e25 c25_67 (rw_if_eq (p1 := 84) (p2 := 70) (by decide) rfl ⟨by omega, by omega⟩ (fun c234922 => ?_) (fun c234922 => ?_))
          · exfalso
            omega
          · refine wp_of e25 c25_70 (rw_aload_n (pc' := 71) (v := .ref r0) rfl rfl rfl ?_)
            refine wp_of e25 c25_71 (rw_bipush (pc' := 73) (z := 23) rfl (by decide) ?_)
            refine wp_of e25 c25_73 (rw_iconst (pc' := 74) rfl ?_)
            refine wp_of e25 c25_74 (rw_bipush (pc' := 76) (z := 7) rfl (by decide) ?_)
            refine wp_of e25 c25_76 (rw_bipush (pc' := 78) (z := 23) rfl (by decide) ?_)
            have k234923 : H234904 r0 0 = H234888 r0 0 := (f234909 r0 0 _ g0 rfl)
            have q234924 : H234904 r0 0 = (tk : Int) := k234923.trans q234899
            have k234925 : H234904 tk 0 = H234888 tk 0 := (f234909 tk 0 _ gtk rfl)
            have q234926 : H234904 tk 0 = (rb : Int) := k234925.trans q234901
            refine wp_of e25 c25_78 (xc_V (pc' := 81) (r := r0) (as := [vI 23, vI 0, vI 7, vI 23]) (st := []) (lm_1_154) rfl rfl (Nat.le_of_ble_eq_true rfl) w234908 g0 sh_3 (by decide) rfl (by decide) (u_29 (B := B) (n := n) (q := ((xN B n ((xN B n q))))) w234908 g0 ⟨by omega, by omega⟩ ⟨by omega, by omega⟩ ⟨by omega, by omega⟩ ⟨by omega, by omega⟩ q234924 gtk q234926 grb a234915) (fun R234927 T234928 H234929 p234930 => ?_))
            obtain ⟨e234931, w234933, f234934, z234935, e234932, b234936, p234937⟩ := p234930
            subst e234931
            subst e234932
            rcases p234937 with ⟨a234938, a234939, a234940, a234941, a234942, a234943, a234944, a234945⟩ | ⟨a234946, a234947, a234948, a234949, a234950⟩
            · have f234951 := f234920.tr f234934 rfl
              show wp _ _ 25 81 [(2, .ref r234857), (0, .ref r0), (1, .ref r1)] [vI z234935] _ H234929 _
              have u234952 := TC_k a234945
              refine wp_of e25 c25_81 (rw_if_ne (p1 := 86) (p2 := 84) (by decide) rfl ⟨by omega, by omega⟩ (fun c234953 => ?_) (fun c234953 => ?_))
              · refine wp_of e25 c25_86 (rw_aload_n (pc' := 87) (v := .ref r234857) rfl rfl rfl ?_)
                refine wp_of e25 c25_87 (rw_aload_n (pc' := 88) (v := .ref r0) rfl rfl rfl ?_)
                refine wp_of e25 c25_88 (xg_I (pc' := 91) lf_1_158 w234933 g0 sh_3 (by decide) (by decide) ty_3_1 rfl rfl (fun b234954 b234955 => ?_))
                refine wp_of e25 c25_91 (xp_I (pc' := 94) lf_1_161 w234933 g234859 sh_35 (by decide) (by decide) ty_35_7 rfl rfl (by omega) (by omega) ⟨by omega, by omega⟩ rfl (fun H234956 e234957 w234958 => ?_))
                have f234959 := f234951.put' e234957 g234859 rfl
                have k234960 : H234956 r234857 7 = H234929 r0 1 := wq_u_s e234957
                refine wp_of e25 c25_94 (rw_aload_n (pc' := 95) (v := .ref r234857) rfl rfl rfl ?_)
                refine wp_of e25 c25_95 (rw_aload_n (pc' := 96) (v := .ref r0) rfl rfl rfl ?_)
                have k234961 : H234956 r0 2 = H234929 r0 2 := (wq_u_t e234957 g234859 g0 rfl 2)
                refine wp_of e25 c25_96 (xg_I (pc' := 99) lf_1_164 w234958 g0 sh_3 (by decide) (by decide) ty_3_2 rfl rfl (fun b234962 b234963 => ?_))
                refine wp_of e25 c25_99 (xp_I (pc' := 102) lf_1_167 w234958 g234859 sh_35 (by decide) (by decide) ty_35_8 rfl rfl (by omega) (by omega) ⟨by omega, by omega⟩ rfl (fun H234964 e234965 w234966 => ?_))
                have f234967 := f234959.put' e234965 g234859 rfl
                have k234968 : H234964 r234857 8 = H234956 r0 2 := wq_u_s e234965
                refine wp_of e25 c25_102 (rw_aload_n (pc' := 103) (v := .ref r0) rfl rfl rfl ?_)
                refine wp_of e25 c25_103 (rw_ldcS (pc' := 105) (k := 69) rfl rfl rfl rfl ?_)
                have k234969 : H234964 r0 0 = H234904 r0 0 := ((wq_u_t e234965 g234859 g0 rfl 0).trans ((wq_u_t e234957 g234859 g0 rfl 0).trans (f234934 r0 0 _ g0 rfl)))
                have q234970 : H234964 r0 0 = (tk : Int) := k234969.trans q234924
                have k234971 : H234964 tk 0 = H234904 tk 0 := ((wq_u_t e234965 g234859 gtk rfl 0).trans ((wq_u_t e234957 g234859 gtk rfl 0).trans (f234934 tk 0 _ gtk rfl)))
                have q234972 : H234964 tk 0 = (rb : Int) := k234971.trans q234926
                have h234973 : TC T H234964 tk B n (xN B n (xN B n (xN B n ((xN B n ((xN B n q))))))) := (TC_fr w234958 gtk ((wfr.rf (l := [(35, 8)])).put' e234965 g234859 rfl) rfl (TC_fr w234933 gtk ((wfr.rf (l := [(35, 7)])).put' e234957 g234859 rfl) rfl a234945))
                refine wp_of e25 c25_105 (xc_V (pc' := 108) (r := r0) (as := [.ref 69]) (st := []) (lm_1_115) rfl rfl (Nat.le_of_ble_eq_true rfl) w234966 g0 sh_3 (by decide) rfl (by decide) (u_23 (B := B) (n := n) (q := ((xN B n (xN B n (xN B n ((xN B n ((xN B n q))))))))) (kk := 409031) w234966 g0 rfl q234970 gtk q234972 grb (by decide +kernel) h234973) (fun R234974 T234975 H234976 p234977 => ?_))
                obtain ⟨e234978, w234980, f234981, z234982, e234979, b234983, p234984⟩ := p234977
                subst e234978
                subst e234979
                rcases p234984 with ⟨a234985, a234986, a234987⟩ | ⟨a234988, a234989, a234990, a234991⟩
                · have f234992 := f234967.tr f234981 rfl
                  show wp _ _ 25 108 [(2, .ref r234857), (0, .ref r0), (1, .ref r1)] [vI z234982] _ H234976 _
                  have u234993 := TC_k a234987
                  refine wp_of e25 c25_108 (rw_if_eq (p1 := 124) (p2 := 111) (by decide) rfl ⟨by omega, by omega⟩ (fun c234994 => ?_) (fun c234994 => ?_))
                  · exfalso
                    omega
                  · refine wp_of e25 c25_111 (rw_aload_n (pc' := 112) (v := .ref r0) rfl rfl rfl ?_)
                    refine wp_of e25 c25_112 (rw_bipush (pc' := 114) (z := 12) rfl (by decide) ?_)
                    refine wp_of e25 c25_114 (rw_iconst (pc' := 115) rfl ?_)
                    refine wp_of e25 c25_115 (rw_iconst (pc' := 116) rfl ?_)
                    refine wp_of e25 c25_116 (rw_bipush (pc' := 118) (z := 12) rfl (by decide) ?_)
                    have k234995 : H234976 r0 0 = H234964 r0 0 := (f234981 r0 0 _ g0 rfl)
                    have q234996 : H234976 r0 0 = (tk : Int) := k234995.trans q234970
                    have k234997 : H234976 tk 0 = H234964 tk 0 := (f234981 tk 0 _ gtk rfl)
                    have q234998 : H234976 tk 0 = (rb : Int) := k234997.trans q234972
                    refine wp_of e25 c25_118 (xc_V (pc' := 121) (r := r0) (as := [vI 12, vI 0, vI 4, vI 12]) (st := []) (lm_1_154) rfl rfl (Nat.le_of_ble_eq_true rfl) w234980 g0 sh_3 (by decide) rfl (by decide) (u_29 (B := B) (n := n) (q := ((xN B n ((xN B n (xN B n (xN B n ((xN B n ((xN B n q))))))))))) w234980 g0 ⟨by omega, by omega⟩ ⟨by omega, by omega⟩ ⟨by omega, by omega⟩ ⟨by omega, by omega⟩ q234996 gtk q234998 grb a234987) (fun R234999 T235000 H235001 p235002 => ?_))
                    obtain ⟨e235003, w235005, f235006, z235007, e235004, b235008, p235009⟩ := p235002
                    subst e235003
                    subst e235004
                    rcases p235009 with ⟨a235010, a235011, a235012, a235013, a235014, a235015, a235016, a235017⟩ | ⟨a235018, a235019, a235020, a235021, a235022⟩
                    · have f235023 := f234992.tr f235006 rfl
                      show wp _ _ 25 121 [(2, .ref r234857), (0, .ref r0), (1, .ref r1)] [vI z235007] _ H235001 _
                      have u235024 := TC_k a235017
                      refine wp_of e25 c25_121 (rw_if_ne (p1 := 126) (p2 := 124) (by decide) rfl ⟨by omega, by omega⟩ (fun c235025 => ?_) (fun c235025 => ?_))
                      · refine wp_of e25 c25_126 (rw_aload_n (pc' := 127) (v := .ref r234857) rfl rfl rfl ?_)
                        refine wp_of e25 c25_127 (rw_aload_n (pc' := 128) (v := .ref r0) rfl rfl rfl ?_)
                        refine wp_of e25 c25_128 (xg_I (pc' := 131) lf_1_158 w235005 g0 sh_3 (by decide) (by decide) ty_3_1 rfl rfl (fun b235026 b235027 => ?_))
                        refine wp_of e25 c25_131 (xp_I (pc' := 134) lf_1_172 w235005 g234859 sh_35 (by decide) (by decide) ty_35_9 rfl rfl (by omega) (by omega) ⟨by omega, by omega⟩ rfl (fun H235028 e235029 w235030 => ?_))
                        have f235031 := f235023.put' e235029 g234859 rfl
                        have k235032 : H235028 r234857 9 = H235001 r0 1 := wq_u_s e235029
                        refine wp_of e25 c25_134 (rw_aload_n (pc' := 135) (v := .ref r234857) rfl rfl rfl ?_)
                        refine wp_of e25 c25_135 (rw_aload_n (pc' := 136) (v := .ref r0) rfl rfl rfl ?_)
                        have k235033 : H235028 r0 2 = H235001 r0 2 := (wq_u_t e235029 g234859 g0 rfl 2)
                        refine wp_of e25 c25_136 (xg_I (pc' := 139) lf_1_164 w235030 g0 sh_3 (by decide) (by decide) ty_3_2 rfl rfl (fun b235034 b235035 => ?_))
                        refine wp_of e25 c25_139 (xp_I (pc' := 142) lf_1_175 w235030 g234859 sh_35 (by decide) (by decide) ty_35_10 rfl rfl (by omega) (by omega) ⟨by omega, by omega⟩ rfl (fun H235036 e235037 w235038 => ?_))
                        have f235039 := f235031.put' e235037 g234859 rfl
                        have k235040 : H235036 r234857 10 = H235028 r0 2 := wq_u_s e235037
                        refine wp_of e25 c25_142 (rw_iconst (pc' := 143) rfl ?_)
                        have k235041 : H235036 r1 7 = H r1 7 := ((wq_u_t e235037 g234859 g1 rfl 7).trans ((wq_u_t e235029 g234859 g1 rfl 7).trans ((f235006 r1 7 _ g1 rfl).trans ((f234981 r1 7 _ g1 rfl).trans ((wq_u_t e234965 g234859 g1 rfl 7).trans ((wq_u_t e234957 g234859 g1 rfl 7).trans ((f234934 r1 7 _ g1 rfl).trans ((f234909 r1 7 _ g1 rfl).trans ((f234893 r1 7 _ g1 rfl).trans (f234869 r1 7 _ g1 rfl))))))))))
                        have k235042 : H235036 r1 8 = H r1 8 := ((wq_u_t e235037 g234859 g1 rfl 8).trans ((wq_u_t e235029 g234859 g1 rfl 8).trans ((f235006 r1 8 _ g1 rfl).trans ((f234981 r1 8 _ g1 rfl).trans ((wq_u_t e234965 g234859 g1 rfl 8).trans ((wq_u_t e234957 g234859 g1 rfl 8).trans ((f234934 r1 8 _ g1 rfl).trans ((f234909 r1 8 _ g1 rfl).trans ((f234893 r1 8 _ g1 rfl).trans (f234869 r1 8 _ g1 rfl))))))))))
                        have k235043 : H235036 r1 9 = H r1 9 := ((wq_u_t e235037 g234859 g1 rfl 9).trans ((wq_u_t e235029 g234859 g1 rfl 9).trans ((f235006 r1 9 _ g1 rfl).trans ((f234981 r1 9 _ g1 rfl).trans ((wq_u_t e234965 g234859 g1 rfl 9).trans ((wq_u_t e234957 g234859 g1 rfl 9).trans ((f234934 r1 9 _ g1 rfl).trans ((f234909 r1 9 _ g1 rfl).trans ((f234893 r1 9 _ g1 rfl).trans (f234869 r1 9 _ g1 rfl))))))))))
                        have k235044 : H235036 r1 10 = H r1 10 := ((wq_u_t e235037 g234859 g1 rfl 10).trans ((wq_u_t e235029 g234859 g1 rfl 10).trans ((f235006 r1 10 _ g1 rfl).trans ((f234981 r1 10 _ g1 rfl).trans ((wq_u_t e234965 g234859 g1 rfl 10).trans ((wq_u_t e234957 g234859 g1 rfl 10).trans ((f234934 r1 10 _ g1 rfl).trans ((f234909 r1 10 _ g1 rfl).trans ((f234893 r1 10 _ g1 rfl).trans (f234869 r1 10 _ g1 rfl))))))))))
                        have k235045 : H235036 r1 11 = H r1 11 := ((wq_u_t e235037 g234859 g1 rfl 11).trans ((wq_u_t e235029 g234859 g1 rfl 11).trans ((f235006 r1 11 _ g1 rfl).trans ((f234981 r1 11 _ g1 rfl).trans ((wq_u_t e234965 g234859 g1 rfl 11).trans ((wq_u_t e234957 g234859 g1 rfl 11).trans ((f234934 r1 11 _ g1 rfl).trans ((f234909 r1 11 _ g1 rfl).trans ((f234893 r1 11 _ g1 rfl).trans (f234869 r1 11 _ g1 rfl))))))))))
                        have k235046 : H235036 r1 12 = H r1 12 := ((wq_u_t e235037 g234859 g1 rfl 12).trans ((wq_u_t e235029 g234859 g1 rfl 12).trans ((f235006 r1 12 _ g1 rfl).trans ((f234981 r1 12 _ g1 rfl).trans ((wq_u_t e234965 g234859 g1 rfl 12).trans ((wq_u_t e234957 g234859 g1 rfl 12).trans ((f234934 r1 12 _ g1 rfl).trans ((f234909 r1 12 _ g1 rfl).trans ((f234893 r1 12 _ g1 rfl).trans (f234869 r1 12 _ g1 rfl))))))))))
                        have k235047 : H235036 r1 13 = H r1 13 := ((wq_u_t e235037 g234859 g1 rfl 13).trans ((wq_u_t e235029 g234859 g1 rfl 13).trans ((f235006 r1 13 _ g1 rfl).trans ((f234981 r1 13 _ g1 rfl).trans ((wq_u_t e234965 g234859 g1 rfl 13).trans ((wq_u_t e234957 g234859 g1 rfl 13).trans ((f234934 r1 13 _ g1 rfl).trans ((f234909 r1 13 _ g1 rfl).trans ((f234893 r1 13 _ g1 rfl).trans (f234869 r1 13 _ g1 rfl))))))))))
                        have k235048 : H235036 r1 14 = H r1 14 := ((wq_u_t e235037 g234859 g1 rfl 14).trans ((wq_u_t e235029 g234859 g1 rfl 14).trans ((f235006 r1 14 _ g1 rfl).trans ((f234981 r1 14 _ g1 rfl).trans ((wq_u_t e234965 g234859 g1 rfl 14).trans ((wq_u_t e234957 g234859 g1 rfl 14).trans ((f234934 r1 14 _ g1 rfl).trans ((f234909 r1 14 _ g1 rfl).trans ((f234893 r1 14 _ g1 rfl).trans (f234869 r1 14 _ g1 rfl))))))))))
                        have k235049 : H235036 r1 15 = H r1 15 := ((wq_u_t e235037 g234859 g1 rfl 15).trans ((wq_u_t e235029 g234859 g1 rfl 15).trans ((f235006 r1 15 _ g1 rfl).trans ((f234981 r1 15 _ g1 rfl).trans ((wq_u_t e234965 g234859 g1 rfl 15).trans ((wq_u_t e234957 g234859 g1 rfl 15).trans ((f234934 r1 15 _ g1 rfl).trans ((f234909 r1 15 _ g1 rfl).trans ((f234893 r1 15 _ g1 rfl).trans (f234869 r1 15 _ g1 rfl))))))))))
                        have k235050 : H235036 r1 16 = H r1 16 := ((wq_u_t e235037 g234859 g1 rfl 16).trans ((wq_u_t e235029 g234859 g1 rfl 16).trans ((f235006 r1 16 _ g1 rfl).trans ((f234981 r1 16 _ g1 rfl).trans ((wq_u_t e234965 g234859 g1 rfl 16).trans ((wq_u_t e234957 g234859 g1 rfl 16).trans ((f234934 r1 16 _ g1 rfl).trans ((f234909 r1 16 _ g1 rfl).trans ((f234893 r1 16 _ g1 rfl).trans (f234869 r1 16 _ g1 rfl))))))))))
                        have k235051 : H235036 r234857 6 = H234864 r234857 6 := ((wq_u_j e235037 rfl).trans ((wq_u_j e235029 rfl).trans ((f235006 r234857 6 _ g234859 rfl).trans ((f234981 r234857 6 _ g234859 rfl).trans ((wq_u_j e234965 rfl).trans ((wq_u_j e234957 rfl).trans ((f234934 r234857 6 _ g234859 rfl).trans ((f234909 r234857 6 _ g234859 rfl).trans (f234893 r234857 6 _ g234859 rfl)))))))))
                        have k235052 : H235036 r234857 7 = H234956 r234857 7 := ((wq_u_j e235037 rfl).trans ((wq_u_j e235029 rfl).trans ((f235006 r234857 7 _ g234859 rfl).trans ((f234981 r234857 7 _ g234859 rfl).trans (wq_u_j e234965 rfl)))))
                        have k235053 : H235036 r234857 8 = H234964 r234857 8 := ((wq_u_j e235037 rfl).trans ((wq_u_j e235029 rfl).trans ((f235006 r234857 8 _ g234859 rfl).trans (f234981 r234857 8 _ g234859 rfl))))
                        have k235054 : H235036 r234857 9 = H235028 r234857 9 := (wq_u_j e235037 rfl)
                        have k235055 : H235036 r234857 11 = H234864 r234857 11 := ((wq_u_j e235037 rfl).trans ((wq_u_j e235029 rfl).trans ((f235006 r234857 11 _ g234859 rfl).trans ((f234981 r234857 11 _ g234859 rfl).trans ((wq_u_j e234965 rfl).trans ((wq_u_j e234957 rfl).trans ((f234934 r234857 11 _ g234859 rfl).trans ((f234909 r234857 11 _ g234859 rfl).trans (f234893 r234857 11 _ g234859 rfl)))))))))
                        have k235056 : H235036 r234857 12 = H234864 r234857 12 := ((wq_u_j e235037 rfl).trans ((wq_u_j e235029 rfl).trans ((f235006 r234857 12 _ g234859 rfl).trans ((f234981 r234857 12 _ g234859 rfl).trans ((wq_u_j e234965 rfl).trans ((wq_u_j e234957 rfl).trans ((f234934 r234857 12 _ g234859 rfl).trans ((f234909 r234857 12 _ g234859 rfl).trans (f234893 r234857 12 _ g234859 rfl)))))))))
                        have k235057 : H235036 r234857 13 = H234864 r234857 13 := ((wq_u_j e235037 rfl).trans ((wq_u_j e235029 rfl).trans ((f235006 r234857 13 _ g234859 rfl).trans ((f234981 r234857 13 _ g234859 rfl).trans ((wq_u_j e234965 rfl).trans ((wq_u_j e234957 rfl).trans ((f234934 r234857 13 _ g234859 rfl).trans ((f234909 r234857 13 _ g234859 rfl).trans (f234893 r234857 13 _ g234859 rfl)))))))))
                        have k235058 : H235036 r234857 14 = H234864 r234857 14 := ((wq_u_j e235037 rfl).trans ((wq_u_j e235029 rfl).trans ((f235006 r234857 14 _ g234859 rfl).trans ((f234981 r234857 14 _ g234859 rfl).trans ((wq_u_j e234965 rfl).trans ((wq_u_j e234957 rfl).trans ((f234934 r234857 14 _ g234859 rfl).trans ((f234909 r234857 14 _ g234859 rfl).trans (f234893 r234857 14 _ g234859 rfl)))))))))
                        have o235059 : (xbd B n q d) = (0, q, (xN B n (xN B n (xN B n ((xN B n ((xN B n (xN B n (xN B n ((xN B n ((xN B n q)))))))))))))) := by
                          unfold xbd
                          repeat first | rw [xs_0 (by omega)] | rw [xs_1 (by omega)] | rw [if_pos (by omega)] | rw [if_neg (by omega)]
                          first | done | rfl | assumption | (exfalso; omega) | (refine Prod.ext ?_ (Prod.ext ?_ ?_) <;> (try dsimp only) <;> omega)
                        have o235059a : ((xbd B n q d)).1 = 0 := by rw [o235059]
                        have o235059b : ((xbd B n q d)).2.1 = q := by rw [o235059]
                        have o235059c : ((xbd B n q d)).2.2 = (xN B n (xN B n (xN B n ((xN B n ((xN B n (xN B n (xN B n ((xN B n ((xN B n q))))))))))))) := by rw [o235059]
                        have h235060 : TC T H235036 tk B n (xN B n (xN B n (xN B n ((xN B n ((xN B n (xN B n (xN B n ((xN B n ((xN B n q))))))))))))) := (TC_fr w235030 gtk ((wfr.rf (l := [(35, 10)])).put' e235037 g234859 rfl) rfl (TC_fr w235005 gtk ((wfr.rf (l := [(35, 9)])).put' e235029 g234859 rfl) rfl a235017))
                        have k235061 : H235036 r1 0 = H r1 0 := ((wq_u_t e235037 g234859 g1 rfl 0).trans ((wq_u_t e235029 g234859 g1 rfl 0).trans ((f235006 r1 0 _ g1 rfl).trans ((f234981 r1 0 _ g1 rfl).trans ((wq_u_t e234965 g234859 g1 rfl 0).trans ((wq_u_t e234957 g234859 g1 rfl 0).trans ((f234934 r1 0 _ g1 rfl).trans ((f234909 r1 0 _ g1 rfl).trans ((f234893 r1 0 _ g1 rfl).trans (f234869 r1 0 _ g1 rfl))))))))))
                        have q235062 : H235036 r1 0 = (r234852 : Int) := k235061.trans q234853
                        have k235063 : H235036 r234852 ((H r1 10).toNat) = H r234852 ((H r1 10).toNat) := ((wq_u_t e235037 g234859 g234854 rfl ((H r1 10).toNat)).trans ((wq_u_t e235029 g234859 g234854 rfl ((H r1 10).toNat)).trans ((f235006 r234852 ((H r1 10).toNat) _ g234854 rfl).trans ((f234981 r234852 ((H r1 10).toNat) _ g234854 rfl).trans ((wq_u_t e234965 g234859 g234854 rfl ((H r1 10).toNat)).trans ((wq_u_t e234957 g234859 g234854 rfl ((H r1 10).toNat)).trans ((f234934 r234852 ((H r1 10).toNat) _ g234854 rfl).trans ((f234909 r234852 ((H r1 10).toNat) _ g234854 rfl).trans ((f234893 r234852 ((H r1 10).toNat) _ g234854 rfl).trans (f234869 r234852 ((H r1 10).toNat) _ g234854 rfl))))))))))
                        have q235064 : H235036 r234852 ((H r1 10).toNat) = (r234857 : Int) := k235063.trans q234858
                        have h235065 : ST T H235036 r1 (d 13) := (ST_fr w235030 g1 ((wfr.rf (l := [(35, 10)])).put' e235037 g234859 rfl) rfl (ST_fr w235005 g1 ((wfr.rf (l := [(35, 9)])).put' e235029 g234859 rfl) rfl (ST_fr w234980 g1 f235006 rfl (ST_fr w234966 g1 f234981 rfl (ST_fr w234958 g1 ((wfr.rf (l := [(35, 8)])).put' e234965 g234859 rfl) rfl (ST_fr w234933 g1 ((wfr.rf (l := [(35, 7)])).put' e234957 g234859 rfl) rfl (ST_fr w234908 g1 f234934 rfl (ST_fr w234892 g1 f234909 rfl (ST_fr w234868 g1 f234893 rfl (ST_fr hW g1 f234869 rfl h234816))))))))))
                        have h235066 : SV T H235036 r1 (d 13) 24 := (SV_fr w235030 g1 ((wfr.rf (l := [(35, 10)])).put' e235037 g234859 rfl) rfl (SV_fr w235005 g1 ((wfr.rf (l := [(35, 9)])).put' e235029 g234859 rfl) rfl (SV_fr w234980 g1 f235006 rfl (SV_fr w234966 g1 f234981 rfl (SV_fr w234958 g1 ((wfr.rf (l := [(35, 8)])).put' e234965 g234859 rfl) rfl (SV_fr w234933 g1 ((wfr.rf (l := [(35, 7)])).put' e234957 g234859 rfl) rfl (SV_fr w234908 g1 f234934 rfl (SV_fr w234892 g1 f234909 rfl (SV_fr w234868 g1 f234893 rfl (SV_fr hW g1 f234869 rfl h234817))))))))))
                        have h235067 : DA3 T H235036 r1 (d 0 5) (d 12) := (DA3_fr w235030 g1 ((wfr.rf (l := [(35, 10)])).put' e235037 g234859 rfl) rfl (DA3_fr w235005 g1 ((wfr.rf (l := [(35, 9)])).put' e235029 g234859 rfl) rfl (DA3_fr w234980 g1 f235006 rfl (DA3_fr w234966 g1 f234981 rfl (DA3_fr w234958 g1 ((wfr.rf (l := [(35, 8)])).put' e234965 g234859 rfl) rfl (DA3_fr w234933 g1 ((wfr.rf (l := [(35, 7)])).put' e234957 g234859 rfl) rfl (DA3_fr w234908 g1 f234934 rfl (DA3_fr w234892 g1 f234909 rfl (DA3_fr w234868 g1 f234893 rfl (DA3_fr hW g1 f234869 rfl h234818))))))))))
                        have h235068 : DA4 T H235036 r1 (d 0 6) (d 14) := (DA4_fr w235030 g1 ((wfr.rf (l := [(35, 10)])).put' e235037 g234859 rfl) rfl (DA4_fr w235005 g1 ((wfr.rf (l := [(35, 9)])).put' e235029 g234859 rfl) rfl (DA4_fr w234980 g1 f235006 rfl (DA4_fr w234966 g1 f234981 rfl (DA4_fr w234958 g1 ((wfr.rf (l := [(35, 8)])).put' e234965 g234859 rfl) rfl (DA4_fr w234933 g1 ((wfr.rf (l := [(35, 7)])).put' e234957 g234859 rfl) rfl (DA4_fr w234908 g1 f234934 rfl (DA4_fr w234892 g1 f234909 rfl (DA4_fr w234868 g1 f234893 rfl (DA4_fr hW g1 f234869 rfl h234819))))))))))
                        have h235069 : DA5 T H235036 r1 (d 0 6) (d 15) := (DA5_fr w235030 g1 ((wfr.rf (l := [(35, 10)])).put' e235037 g234859 rfl) rfl (DA5_fr w235005 g1 ((wfr.rf (l := [(35, 9)])).put' e235029 g234859 rfl) rfl (DA5_fr w234980 g1 f235006 rfl (DA5_fr w234966 g1 f234981 rfl (DA5_fr w234958 g1 ((wfr.rf (l := [(35, 8)])).put' e234965 g234859 rfl) rfl (DA5_fr w234933 g1 ((wfr.rf (l := [(35, 7)])).put' e234957 g234859 rfl) rfl (DA5_fr w234908 g1 f234934 rfl (DA5_fr w234892 g1 f234909 rfl (DA5_fr w234868 g1 f234893 rfl (DA5_fr hW g1 f234869 rfl h234820))))))))))
                        have h235070 : DA6 T H235036 r1 (d 0 7) (d 16) := (DA6_fr w235030 g1 ((wfr.rf (l := [(35, 10)])).put' e235037 g234859 rfl) rfl (DA6_fr w235005 g1 ((wfr.rf (l := [(35, 9)])).put' e235029 g234859 rfl) rfl (DA6_fr w234980 g1 f235006 rfl (DA6_fr w234966 g1 f234981 rfl (DA6_fr w234958 g1 ((wfr.rf (l := [(35, 8)])).put' e234965 g234859 rfl) rfl (DA6_fr w234933 g1 ((wfr.rf (l := [(35, 7)])).put' e234957 g234859 rfl) rfl (DA6_fr w234908 g1 f234934 rfl (DA6_fr w234892 g1 f234909 rfl (DA6_fr w234868 g1 f234893 rfl (DA6_fr hW g1 f234869 rfl h234821))))))))))
                        exact wp_zreturn e25 c25_143 rfl (by omega) ⟨rfl, w235038, f235039, 1, rfl, ⟨by omega, by omega⟩, (Or.inl ⟨by omega, by omega, by omega, by omega, h235060, DC_mk ⟨by omega, by omega, by omega, by omega, by omega, by omega, by omega, by omega, by omega, by omega, by omega, by omega, by omega, by omega, by omega, by omega⟩ (DQ_oth hW g1 f235039 rfl hDD_r1 q235062 q235064 (by omega) (by omega) (fun a ha ga => ((wq_u_nf e235037 ha).trans ((wq_u_nf e235029 ha).trans ((f235006.fn ga rfl).trans ((f234981.fn ga rfl).trans ((wq_u_nf e234965 ha).trans ((wq_u_nf e234957 ha).trans ((f234934.fn ga rfl).trans ((f234909.fn ga rfl).trans ((f234893.fn ga rfl).trans (a234876 a ha ga))))))))))) hDC_r1.2.1) h235065 h235066 h235067 h235068 h235069 h235070 ⟨rfl, rfl, rfl, rfl, rfl⟩ ⟨rfl, rfl, rfl⟩, ⟨r234857, by rw [q235062, Int.toNat_natCast, show (d 0 3).toNat = (H r1 10).toNat by omega]; exact q235064, g234859, by omega, by omega, by omega, by omega, by omega, by omega, by omega, by omega, by omega⟩⟩)⟩
                      · exfalso
                        omega
                    · have f235071 := f234992.tr f235006 rfl
                      show wp _ _ 25 121 [(2, .ref r234857), (0, .ref r0), (1, .ref r1)] [vI z235007] _ H235001 _
                      refine wp_of e25 c25_121 (rw_if_ne (p1 := 126) (p2 := 124) (by decide) rfl ⟨by omega, by omega⟩ (fun c235072 => ?_) (fun c235072 => ?_))
                      · exfalso
                        omega
                      · refine wp_of e25 c25_124 (rw_iconst (pc' := 125) rfl ?_)
                        have o235073 : (xbd B n q d) = ((xrg B n ((xN B n ((xN B n (xN B n (xN B n ((xN B n ((xN B n q)))))))))) 12 0 4 12).1, (xrg B n ((xN B n ((xN B n (xN B n (xN B n ((xN B n ((xN B n q)))))))))) 12 0 4 12).2.1, (xrg B n ((xN B n ((xN B n (xN B n (xN B n ((xN B n ((xN B n q)))))))))) 12 0 4 12).2.2) := by
                          unfold xbd
                          repeat first | rw [xs_0 (by omega)] | rw [xs_1 (by omega)] | rw [if_pos (by omega)] | rw [if_neg (by omega)]
                          first | done | rfl | assumption | (exfalso; omega) | (refine Prod.ext ?_ (Prod.ext ?_ ?_) <;> (try dsimp only) <;> omega)
                        have o235073a : ((xbd B n q d)).1 = (xrg B n ((xN B n ((xN B n (xN B n (xN B n ((xN B n ((xN B n q)))))))))) 12 0 4 12).1 := by rw [o235073]
                        have o235073b : ((xbd B n q d)).2.1 = (xrg B n ((xN B n ((xN B n (xN B n (xN B n ((xN B n ((xN B n q)))))))))) 12 0 4 12).2.1 := by rw [o235073]
                        have o235073c : ((xbd B n q d)).2.2 = (xrg B n ((xN B n ((xN B n (xN B n (xN B n ((xN B n ((xN B n q)))))))))) 12 0 4 12).2.2 := by rw [o235073]
                        exact wp_zreturn e25 c25_125 rfl (by omega) ⟨rfl, w235005, f235071, 0, rfl, ⟨by omega, by omega⟩, (Or.inr ⟨by omega, by omega, by omega, by omega, by omega⟩)⟩
                · have f235074 := f234967.tr f234981 rfl
                  show wp _ _ 25 108 [(2, .ref r234857), (0, .ref r0), (1, .ref r1)] [vI z234982] _ H234976 _
                  refine wp_of e25 c25_108 (rw_if_eq (p1 := 124) (p2 := 111) (by decide) rfl ⟨by omega, by omega⟩ (fun c235075 => ?_) (fun c235075 => ?_))
                  · refine wp_of e25 c25_124 (rw_iconst (pc' := 125) rfl ?_)
                    have o235076 : (xbd B n q d) = (xw B n ((xN B n (xN B n (xN B n ((xN B n ((xN B n q)))))))) 409031, ((xN B n (xN B n (xN B n ((xN B n ((xN B n q)))))))), ((xN B n (xN B n (xN B n ((xN B n ((xN B n q))))))))) := by
                      unfold xbd
                      repeat first | rw [xs_0 (by omega)] | rw [xs_1 (by omega)] | rw [if_pos (by omega)] | rw [if_neg (by omega)]
                      first | done | rfl | assumption | (exfalso; omega) | (refine Prod.ext ?_ (Prod.ext ?_ ?_) <;> (try dsimp only) <;> omega)
                    have o235076a : ((xbd B n q d)).1 = xw B n ((xN B n (xN B n (xN B n ((xN B n ((xN B n q)))))))) 409031 := by rw [o235076]
                    have o235076b : ((xbd B n q d)).2.1 = ((xN B n (xN B n (xN B n ((xN B n ((xN B n q)))))))) := by rw [o235076]
                    have o235076c : ((xbd B n q d)).2.2 = ((xN B n (xN B n (xN B n ((xN B n ((xN B n q)))))))) := by rw [o235076]
                    exact wp_zreturn e25 c25_125 rfl (by omega) ⟨rfl, w234980, f235074, 0, rfl, ⟨by omega, by omega⟩, (Or.inr ⟨by omega, by omega, by omega, by omega, by omega⟩)⟩
                  · exfalso
                    omega
              · exfalso
                omega
            · have f235077 := f234920.tr f234934 rfl
              show wp _ _ 25 81 [(2, .ref r234857), (0, .ref r0), (1, .ref r1)] [vI z234935] _ H234929 _
              refine wp_of e25 c25_81 (rw_if_ne (p1 := 86) (p2 := 84) (by decide) rfl ⟨by omega, by omega⟩ (fun c235078 => ?_) (fun c235078 => ?_))
              · exfalso
                omega
              · refine wp_of e25 c25_84 (rw_iconst (pc' := 85) rfl ?_)
                have o235079 : (xbd B n q d) = ((xrg B n ((xN B n ((xN B n q)))) 23 0 7 23).1, (xrg B n ((xN B n ((xN B n q)))) 23 0 7 23).2.1, (xrg B n ((xN B n ((xN B n q)))) 23 0 7 23).2.2) := by
                  unfold xbd
                  repeat first | rw [xs_0 (by omega)] | rw [xs_1 (by omega)] | rw [if_pos (by omega)] | rw [if_neg (by omega)]
                  first | done | rfl | assumption | (exfalso; omega) | (refine Prod.ext ?_ (Prod.ext ?_ ?_) <;> (try dsimp only) <;> omega)
                have o235079a : ((xbd B n q d)).1 = (xrg B n ((xN B n ((xN B n q)))) 23 0 7 23).1 := by rw [o235079]
                have o235079b : ((xbd B n q d)).2.1 = (xrg B n ((xN B n ((xN B n q)))) 23 0 7 23).2.1 := by rw [o235079]
                have o235079c : ((xbd B n q d)).2.2 = (xrg B n ((xN B n ((xN B n q)))) 23 0 7 23).2.2 := by rw [o235079]
                exact wp_zreturn e25 c25_85 rfl (by omega) ⟨rfl, w234933, f235077, 0, rfl, ⟨by omega, by omega⟩, (Or.inr ⟨by omega, by omega, by omega, by omega, by omega⟩)⟩
        · have f235080 := f234896.tr f234909 rfl
          show wp _ _ 25 67 [(2, .ref r234857), (0, .ref r0), (1, .ref r1)] [vI z234910] _ H234904 _
          refine wp_of e25 c25_67 (rw_if_eq (p1 := 84) (p2 := 70) (by decide) rfl ⟨by omega, by omega⟩ (fun c235081 => ?_) (fun c235081 => ?_))
          · refine wp_of e25 c25_84 (rw_iconst (pc' := 85) rfl ?_)
            have o235082 : (xbd B n q d) = (xw B n ((xN B n q)) 2212, ((xN B n q)), ((xN B n q))) := by
              unfold xbd
              repeat first | rw [xs_0 (by omega)] | rw [xs_1 (by omega)] | rw [if_pos (by omega)] | rw [if_neg (by omega)]
              first | done | rfl | assumption | (exfalso; omega) | (refine Prod.ext ?_ (Prod.ext ?_ ?_) <;> (try dsimp only) <;> omega)
            have o235082a : ((xbd B n q d)).1 = xw B n ((xN B n q)) 2212 := by rw [o235082]
            have o235082b : ((xbd B n q d)).2.1 = ((xN B n q)) := by rw [o235082]
            have o235082c : ((xbd B n q d)).2.2 = ((xN B n q)) := by rw [o235082]
            exact wp_zreturn e25 c25_85 rfl (by omega) ⟨rfl, w234908, f235080, 0, rfl, ⟨by omega, by omega⟩, (Or.inr ⟨by omega, by omega, by omega, by omega, by omega⟩)⟩
          · exfalso
            omega
      · refine wp_of e25 c25_27 (rw_aload_n (pc' := 28) (v := .ref r0) rfl rfl rfl ?_)
        refine wp_of e25 c25_28 (rw_iconst (pc' := 29) rfl ?_)
        refine wp_of e25 c25_29 (xc_V (pc' := 32) (r := r0) (as := [vI 3]) (st := []) (lm_1_47) rfl rfl (Nat.le_of_ble_eq_true rfl) hW g0 sh_3 (by decide) rfl (by decide) (u_20  hW g0 ⟨by omega, by omega⟩ qtk gtk) (fun R235083 T235084 H235085 p235086 => ?_))
        obtain ⟨e235087, w235089, f235090, z235091, e235088, b235092, p235093⟩ := p235086
        subst e235087
        subst e235088
        obtain ⟨a235094, a235095, a235096⟩ := p235093
        have f235097 := f0.tr f235090 rfl
        show wp _ _ 25 32 [(0, .ref r0), (1, .ref r1)] [vI z235091] _ H235085 _
        have o235098 : (xbd B n q d) = (xnm B n q d, q, q) := by
          unfold xbd
          repeat first | rw [xs_0 (by omega)] | rw [xs_1 (by omega)] | rw [if_pos (by omega)] | rw [if_neg (by omega)]
          first | done | rfl | assumption | (exfalso; omega) | (refine Prod.ext ?_ (Prod.ext ?_ ?_) <;> (try dsimp only) <;> omega)
        have o235098a : ((xbd B n q d)).1 = xnm B n q d := by rw [o235098]
        have o235098b : ((xbd B n q d)).2.1 = q := by rw [o235098]
        have o235098c : ((xbd B n q d)).2.2 = q := by rw [o235098]
        exact wp_zreturn e25 c25_32 rfl (by omega) ⟨rfl, w235089, f235097, z235091, rfl, ⟨by omega, by omega⟩, (Or.inr ⟨by omega, by omega, by omega, by omega, by omega⟩)⟩
    · exfalso
      omega
  · show wp _ _ 25 4 [(0, .ref r0), (1, .ref r1)] [vI z234829] _ H _
    refine wp_of e25 c25_4 (rw_if_ne (p1 := 13) (p2 := 7) (by decide) rfl ⟨by omega, by omega⟩ (fun c235099 => ?_) (fun c235099 => ?_))
    · exfalso
      omega
    · refine wp_of e25 c25_7 (rw_aload_n (pc' := 8) (v := .ref r0) rfl rfl rfl ?_)
      refine wp_of e25 c25_8 (rw_iconst (pc' := 9) rfl ?_)
      refine wp_of e25 c25_9 (xc_V (pc' := 12) (r := r0) (as := [vI 1]) (st := []) (lm_1_47) rfl rfl (Nat.le_of_ble_eq_true rfl) hW g0 sh_3 (by decide) rfl (by decide) (u_20  hW g0 ⟨by omega, by omega⟩ qtk gtk) (fun R235100 T235101 H235102 p235103 => ?_))
      obtain ⟨e235104, w235106, f235107, z235108, e235105, b235109, p235110⟩ := p235103
      subst e235104
      subst e235105
      obtain ⟨a235111, a235112, a235113⟩ := p235110
      have f235114 := f0.tr f235107 rfl
      show wp _ _ 25 12 [(0, .ref r0), (1, .ref r1)] [vI z235108] _ H235102 _
      have o235115 : (xbd B n q d) = (xnm B n q d, q, q) := by
        unfold xbd
        repeat first | rw [xs_0 (by omega)] | rw [xs_1 (by omega)] | rw [if_pos (by omega)] | rw [if_neg (by omega)]
        first | done | rfl | assumption | (exfalso; omega) | (refine Prod.ext ?_ (Prod.ext ?_ ?_) <;> (try dsimp only) <;> omega)
      have o235115a : ((xbd B n q d)).1 = xnm B n q d := by rw [o235115]
      have o235115b : ((xbd B n q d)).2.1 = q := by rw [o235115]
      have o235115c : ((xbd B n q d)).2.2 = q := by rw [o235115]
      exact wp_zreturn e25 c25_12 rfl (by omega) ⟨rfl, w235106, f235114, z235108, rfl, ⟨by omega, by omega⟩, (Or.inr ⟨by omega, by omega, by omega, by omega, by omega⟩)⟩
