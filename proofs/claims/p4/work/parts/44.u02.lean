/-! what methods do (own work, written by wip/gen3/sx3.py) -/
/-! StrikeAwake$Reader.readsOffer(LStrikeAwake$Parish;)Z  -/
abbrev uq_43 (r0 : Nat) (r1 : Nat) (tk : Nat) (rb : Nat) (B : Nat → Int) (n : Int) (q : Int) (d : xD) (T : wq_T) (H : wq_H) : Option Value → wq_T → wq_H → Prop := fun r T' H' => T = T' ∧ WT T H' ∧ wfr [(27, 14), (3, 1), (3, 2), (3, 3), (3, 4), (4, 2), (4, 3), (4, 4), (4, 5), (4, 6), (34, 999)] T H H' ∧ ∃ z : Int, some (vI z) = r ∧ (0 ≤ z ∧ z ≤ 1) ∧ (((z = 1) ∧ ((xtl B n q d).1 = 0) ∧ (xtl B n q d = (0, q, (xN B n (xN B n (xN B n (xN B n q)))))) ∧ (q ≤ (xN B n (xN B n (xN B n (xN B n q))))) ∧ (H' r0 3 = H r0 3) ∧ TC T H' tk B n (xN B n (xN B n (xN B n (xN B n q)))) ∧ DC T H' r1 (xdof B n q d)) ∨ ((z = 0) ∧ ((xtl B n q d).1 ≠ 0) ∧ ((xtl B n q d).2.2 = (xtl B n q d).2.1) ∧ (H' r0 3 = (xtl B n q d).1) ∧ (H' r0 4 = (xtl B n q d).2.1)))
set_option maxHeartbeats 4000000 in
theorem u_43 {kt : Nat → Option mc_E} {T : wq_T} {H : wq_H} {r0 : Nat} {r1 : Nat} {tk : Nat} {rb : Nat} {B : Nat → Int} {n : Int} {q : Int} {d : xD} (hW : WT T H) (g0 : T.2.2.2 r0 = some 3) (g1 : T.2.2.2 r1 = some 27) (qtk : H r0 0 = (tk : Int)) (gtk : T.2.2.2 tk = some 4) (qrb : H tk 0 = (rb : Int)) (grb : T.2.2.2 rb = some 2) (p0 : d 0 7 ≤ 5) (hTC_tk : TC T H tk B n q) (hDC_r1 : DC T H r1 d) : wpc kt 5 43 [.ref r0, .ref r1] T H (uq_43 r0 r1 tk rb B n q d T H) := by
  refine wp_enter e43 (Nat.le_of_ble_eq_true rfl) rfl ?_
  have f0 : wfr [(27, 14), (3, 1), (3, 2), (3, 3), (3, 4), (4, 2), (4, 3), (4, 4), (4, 5), (4, 6), (34, 999)] T H H := wfr.rf
  show wp _ _ 43 0 [(0, .ref r0), (1, .ref r1)] [] _ H _
  have u116 := TC_k hTC_tk
  have u117 := DC_k hDC_r1
  have h118 : DQ T H r1 d := hDC_r1.2.1
  have h119 : ST T H r1 (d 13) := hDC_r1.2.2.1
  have h120 : SV T H r1 (d 13) 24 := hDC_r1.2.2.2.1
  have h121 : DA3 T H r1 (d 0 5) (d 12) := hDC_r1.2.2.2.2.1
  have h122 : DA4 T H r1 (d 0 6) (d 14) := hDC_r1.2.2.2.2.2.1
  have h123 : DA5 T H r1 (d 0 6) (d 15) := hDC_r1.2.2.2.2.2.2.1
  have h124 : DA6 T H r1 (d 0 7) (d 16) := hDC_r1.2.2.2.2.2.2.2
  refine wp_of e43 c43_0 (rw_aload_n (pc' := 1) (v := .ref r0) rfl rfl rfl ?_)
  refine wp_of e43 c43_1 (rw_aload_n (pc' := 2) (v := .ref r1) rfl rfl rfl ?_)
  refine wp_of e43 c43_2 (xc_V (pc' := 5) (r := r0) (as := [.ref r1]) (st := []) (lm_1_207) rfl rfl (Nat.le_of_ble_eq_true rfl) hW g0 sh_3 (by decide) rfl (by decide) (u_33 (B := B) (n := n) (q := q) (d := d) hW g0 g1 qtk gtk qrb grb hTC_tk hDC_r1) (fun R125 T126 H127 p128 => ?_))
  obtain ⟨e129, w131, f132, z133, e130, b134, p135⟩ := p128
  subst e129
  subst e130
  rcases p135 with ⟨a136, a137, a138, a139, a140⟩ | ⟨a141, a142, a143, a144⟩
  · have f145 := f0.tr f132 rfl
    show wp _ _ 43 5 [(0, .ref r0), (1, .ref r1)] [vI z133] _ H127 _
    refine wp_of e43 c43_5 (rw_if_ge (p1 := 10) (p2 := 8) (by decide) rfl ⟨by omega, by omega⟩ (fun c146 => ?_) (fun c146 => ?_))
    · refine wp_of e43 c43_10 (rw_aload_n (pc' := 11) (v := .ref r0) rfl rfl rfl ?_)
      have k147 : H127 r0 0 = H r0 0 := (f132 r0 0 _ g0 rfl)
      have q148 : H127 r0 0 = (tk : Int) := k147.trans qtk
      refine wp_of e43 c43_11 (xg_K (pc' := 14) lf_1_12 w131 g0 sh_3 (by decide) (by decide) rfl q148 rfl ?_)
      have k149 : H127 tk 0 = H tk 0 := (f132 tk 0 _ gtk rfl)
      have q150 : H127 tk 0 = (rb : Int) := k149.trans qrb
      have k151 : H127 tk 1 = H tk 1 := (f132 tk 1 _ gtk rfl)
      have k152 : H127 tk 2 = H tk 2 := (f132 tk 2 _ gtk rfl)
      have h153 : TC T H127 tk B n q := (TC_fr hW gtk f132 rfl hTC_tk)
      have h154 : TP T H127 rb B := TC_tp h153 q150
      refine wp_of e43 c43_14 (xc_V (pc' := 17) (r := tk) (as := []) (st := []) (lm_1_74) rfl rfl (Nat.le_of_ble_eq_true rfl) w131 gtk sh_4 (by decide) rfl (by decide) (u_16 (B := B) (n := n) (a := (xE B n q)) (q := (xN B n q)) w131 gtk q150 grb (by omega) (by omega) (by omega) (rfl) h154) (fun R155 T156 H157 p158 => ?_))
      obtain ⟨e159, w161, f162, e160, p163⟩ := p158
      subst e159
      subst e160
      have f165 := f145.tr f162 rfl
      show wp _ _ 43 17 [(0, .ref r0), (1, .ref r1)] [] _ H157 _
      have u166 := TC_k p163
      refine wp_of e43 c43_17 (rw_aload_n (pc' := 18) (v := .ref r0) rfl rfl rfl ?_)
      refine wp_of e43 c43_18 (rw_bipush (pc' := 20) (z := 23) rfl (by decide) ?_)
      refine wp_of e43 c43_20 (rw_iconst (pc' := 21) rfl ?_)
      refine wp_of e43 c43_21 (rw_bipush (pc' := 23) (z := 24) rfl (by decide) ?_)
      refine wp_of e43 c43_23 (rw_bipush (pc' := 25) (z := 24) rfl (by decide) ?_)
      have k167 : H157 r0 0 = H127 r0 0 := (f162 r0 0 _ g0 rfl)
      have q168 : H157 r0 0 = (tk : Int) := k167.trans q148
      have k169 : H157 tk 0 = H127 tk 0 := (f162 tk 0 _ gtk rfl)
      have q170 : H157 tk 0 = (rb : Int) := k169.trans q150
      have k171 : H157 r0 3 = H127 r0 3 := (f162 r0 3 _ g0 rfl)
      refine wp_of e43 c43_25 (xc_V (pc' := 28) (r := r0) (as := [vI 23, vI 1, vI 24, vI 24]) (st := []) (lm_1_154) rfl rfl (Nat.le_of_ble_eq_true rfl) w161 g0 sh_3 (by decide) rfl (by decide) (u_29 (B := B) (n := n) (q := ((xN B n q))) w161 g0 ⟨by omega, by omega⟩ ⟨by omega, by omega⟩ ⟨by omega, by omega⟩ ⟨by omega, by omega⟩ q168 gtk q170 grb p163) (fun R172 T173 H174 p175 => ?_))
      obtain ⟨e176, w178, f179, z180, e177, b181, p182⟩ := p175
      subst e176
      subst e177
      rcases p182 with ⟨a183, a184, a185, a186, a187, a188, a189, a190, a191⟩ | ⟨a192, a193, a194, a195, a196⟩
      · have f197 := f165.tr f179 rfl
        show wp _ _ 43 28 [(0, .ref r0), (1, .ref r1)] [vI z180] _ H174 _
        have u198 := TC_k a191
        refine wp_of e43 c43_28 (rw_if_ne (p1 := 33) (p2 := 31) (by decide) rfl ⟨by omega, by omega⟩ (fun c199 => ?_) (fun c199 => ?_))
        · refine wp_of e43 c43_33 (rw_aload_n (pc' := 34) (v := .ref r1) rfl rfl rfl ?_)
          refine wp_of e43 c43_34 (xg_R (pc' := 37) lf_1_251 w178 g1 sh_27 (by decide) (by decide) ty_27_6 rfl rfl (fun r200 q201 g202 => ?_))
          refine wp_of e43 c43_37 (rw_aload_n (pc' := 38) (v := .ref r1) rfl rfl rfl ?_)
          have k203 : H174 r1 14 = H r1 14 := ((f179 r1 14 _ g1 rfl).trans ((f162 r1 14 _ g1 rfl).trans (f132 r1 14 _ g1 rfl)))
          refine wp_of e43 c43_38 (xg_I (pc' := 41) lf_1_254 w178 g1 sh_27 (by decide) (by decide) ty_27_14 rfl rfl (fun b204 b205 => ?_))
          refine wp_of e43 c43_41 (rw_aload_n (pc' := 42) (v := .ref r0) rfl rfl rfl ?_)
          refine wp_of e43 c43_42 (xg_I (pc' := 45) lf_1_158 w178 g0 sh_3 (by decide) (by decide) ty_3_1 rfl rfl (fun b206 b207 => ?_))
          refine wp_of e43 c43_45 (rw_aload_n (pc' := 46) (v := .ref r0) rfl rfl rfl ?_)
          refine wp_of e43 c43_46 (xg_I (pc' := 49) lf_1_164 w178 g0 sh_3 (by decide) (by decide) ty_3_2 rfl rfl (fun b208 b209 => ?_))
          refine wp_of e43 c43_49 (xc_S (pc' := 52) (as := [vI (H174 r0 1), vI (H174 r0 2)]) (st := [vI (H174 r1 14), .ref r200]) (lm_1_194) rfl rfl (Nat.le_of_ble_eq_true rfl) rfl (by decide) (u_31 (lo := (xV B n (xN B n q))) (hi := (xV B n (xN B n (xN B n (xN B n q))))) w178 ⟨by omega, by omega⟩ ⟨by omega, by omega⟩ (by omega) (by omega) (by omega)) (fun R210 T211 H212 p213 => ?_))
          obtain ⟨e214, e216, z217, e215, b218, p219⟩ := p213
          subst e214
          subst e215
          subst e216
          show wp _ _ 43 52 [(0, .ref r0), (1, .ref r1)] [vI z217, vI (H174 r1 14), .ref r200] _ H174 _
          have h221 : DA6 T H174 r1 (d 0 7) (d 16) := (DA6_fr w161 g1 f179 rfl (DA6_fr w131 g1 f162 rfl (DA6_fr hW g1 f132 rfl h124)))
          refine wp_of e43 c43_52 (xs_I (pc' := 53) w178 g202 (by decide) sh_34 (by decide) (ty_34 _) (by omega) (by omega) ⟨by omega, by omega⟩ (by omega) (by omega) rfl (fun H222 e223 w224 => ?_))
          have f225 := f197.put' e223 g202 rfl
          have h226 : DA6 T H222 r1 (d 0 7 + 1) (xdof B n q d 16) := DA_put h221 q201 g1 g202 (by decide) e223 (by omega) rfl ((xdof_c (k := ((H174 r1 14).toNat)) (by omega)).1.trans (by omega)) (xdof_c (k := ((H174 r1 14).toNat)) (by omega)).2
          refine wp_of e43 c43_53 (rw_aload_n (pc' := 54) (v := .ref r1) rfl rfl rfl ?_)
          refine wp_of e43 c43_54 (rw_dup (pc' := 55) rfl rfl ?_)
          have k227 : H222 r1 14 = H174 r1 14 := (wq_u_t e223 g202 g1 rfl 14)
          refine wp_of e43 c43_55 (xg_I (pc' := 58) lf_1_254 w224 g1 sh_27 (by decide) (by decide) ty_27_14 rfl rfl (fun b228 b229 => ?_))
          refine wp_of e43 c43_58 (rw_iconst (pc' := 59) rfl ?_)
          refine wp_of e43 c43_59 (rw_iadd (pc' := 60) rfl ?_)
          refine wp_of e43 c43_60 (xp_I (pc' := 63) lf_1_254 w224 g1 sh_27 (by decide) (by decide) ty_27_14 rfl rfl (by omega) (by omega) ⟨by omega, by omega⟩ rfl (fun H230 e231 w232 => ?_))
          have f233 := f225.put' e231 g1 rfl
          have k234 : H230 r1 14 = (H222 r1 14) + 1 := wq_u_s e231
          refine wp_of e43 c43_63 (rw_iconst (pc' := 64) rfl ?_)
          have k235 : H230 r0 3 = H174 r0 3 := ((wq_u_t e231 g1 g0 rfl 3).trans (wq_u_t e223 g202 g0 rfl 3))
          have k236 : H230 r1 7 = H r1 7 := ((wq_u_j e231 rfl).trans ((wq_u_t e223 g202 g1 rfl 7).trans ((f179 r1 7 _ g1 rfl).trans ((f162 r1 7 _ g1 rfl).trans (f132 r1 7 _ g1 rfl)))))
          have k237 : H230 r1 8 = H r1 8 := ((wq_u_j e231 rfl).trans ((wq_u_t e223 g202 g1 rfl 8).trans ((f179 r1 8 _ g1 rfl).trans ((f162 r1 8 _ g1 rfl).trans (f132 r1 8 _ g1 rfl)))))
          have k238 : H230 r1 9 = H r1 9 := ((wq_u_j e231 rfl).trans ((wq_u_t e223 g202 g1 rfl 9).trans ((f179 r1 9 _ g1 rfl).trans ((f162 r1 9 _ g1 rfl).trans (f132 r1 9 _ g1 rfl)))))
          have k239 : H230 r1 10 = H r1 10 := ((wq_u_j e231 rfl).trans ((wq_u_t e223 g202 g1 rfl 10).trans ((f179 r1 10 _ g1 rfl).trans ((f162 r1 10 _ g1 rfl).trans (f132 r1 10 _ g1 rfl)))))
          have k240 : H230 r1 11 = H r1 11 := ((wq_u_j e231 rfl).trans ((wq_u_t e223 g202 g1 rfl 11).trans ((f179 r1 11 _ g1 rfl).trans ((f162 r1 11 _ g1 rfl).trans (f132 r1 11 _ g1 rfl)))))
          have k241 : H230 r1 12 = H r1 12 := ((wq_u_j e231 rfl).trans ((wq_u_t e223 g202 g1 rfl 12).trans ((f179 r1 12 _ g1 rfl).trans ((f162 r1 12 _ g1 rfl).trans (f132 r1 12 _ g1 rfl)))))
          have k242 : H230 r1 13 = H r1 13 := ((wq_u_j e231 rfl).trans ((wq_u_t e223 g202 g1 rfl 13).trans ((f179 r1 13 _ g1 rfl).trans ((f162 r1 13 _ g1 rfl).trans (f132 r1 13 _ g1 rfl)))))
          have k243 : H230 r1 15 = H r1 15 := ((wq_u_j e231 rfl).trans ((wq_u_t e223 g202 g1 rfl 15).trans ((f179 r1 15 _ g1 rfl).trans ((f162 r1 15 _ g1 rfl).trans (f132 r1 15 _ g1 rfl)))))
          have k244 : H230 r1 16 = H r1 16 := ((wq_u_j e231 rfl).trans ((wq_u_t e223 g202 g1 rfl 16).trans ((f179 r1 16 _ g1 rfl).trans ((f162 r1 16 _ g1 rfl).trans (f132 r1 16 _ g1 rfl)))))
          have k245 : H230 r0 1 = H174 r0 1 := ((wq_u_t e231 g1 g0 rfl 1).trans (wq_u_t e223 g202 g0 rfl 1))
          have k246 : H230 r0 2 = H174 r0 2 := ((wq_u_t e231 g1 g0 rfl 2).trans (wq_u_t e223 g202 g0 rfl 2))
          have o247 : (xtl B n q d) = (0, q, (xN B n (xN B n (xN B n ((xN B n q)))))) := by
            unfold xtl
            repeat first | rw [xs_0 (by omega)] | rw [xs_1 (by omega)] | rw [if_pos (by omega)] | rw [if_neg (by omega)]
            first | done | rfl | assumption | (exfalso; omega) | (refine Prod.ext ?_ (Prod.ext ?_ ?_) <;> (try dsimp only) <;> omega)
          have o247a : ((xtl B n q d)).1 = 0 := by rw [o247]
          have o247b : ((xtl B n q d)).2.1 = q := by rw [o247]
          have o247c : ((xtl B n q d)).2.2 = (xN B n (xN B n (xN B n ((xN B n q))))) := by rw [o247]
          have _l := @xdof_v B n q d
          have h248 : TC T H230 tk B n (xN B n (xN B n (xN B n ((xN B n q))))) := (TC_fr w224 gtk ((wfr.rf (l := [(27, 14)])).put' e231 g1 rfl) rfl (TC_fr w178 gtk ((wfr.rf (l := [(34, 999)])).put' e223 g202 rfl) rfl a191))
          have h249 : DQ T H230 r1 d := (DQ_fr w224 g1 ((wfr.rf (l := [(27, 14)])).put' e231 g1 rfl) rfl (DQ_fr w178 g1 ((wfr.rf (l := [(34, 999)])).put' e223 g202 rfl) rfl (DQ_fr w161 g1 f179 rfl (DQ_fr w131 g1 f162 rfl (DQ_fr hW g1 f132 rfl h118)))))
          have h250 : ST T H230 r1 (d 13) := (ST_fr w224 g1 ((wfr.rf (l := [(27, 14)])).put' e231 g1 rfl) rfl (ST_fr w178 g1 ((wfr.rf (l := [(34, 999)])).put' e223 g202 rfl) rfl (ST_fr w161 g1 f179 rfl (ST_fr w131 g1 f162 rfl (ST_fr hW g1 f132 rfl h119)))))
          have h251 : SV T H230 r1 (d 13) 24 := (SV_fr w224 g1 ((wfr.rf (l := [(27, 14)])).put' e231 g1 rfl) rfl (SV_fr w178 g1 ((wfr.rf (l := [(34, 999)])).put' e223 g202 rfl) rfl (SV_fr w161 g1 f179 rfl (SV_fr w131 g1 f162 rfl (SV_fr hW g1 f132 rfl h120)))))
          have h252 : DA3 T H230 r1 (d 0 5) (d 12) := (DA3_fr w224 g1 ((wfr.rf (l := [(27, 14)])).put' e231 g1 rfl) rfl (DA3_fr w178 g1 ((wfr.rf (l := [(34, 999)])).put' e223 g202 rfl) rfl (DA3_fr w161 g1 f179 rfl (DA3_fr w131 g1 f162 rfl (DA3_fr hW g1 f132 rfl h121)))))
          have h253 : DA4 T H230 r1 (d 0 6) (d 14) := (DA4_fr w224 g1 ((wfr.rf (l := [(27, 14)])).put' e231 g1 rfl) rfl (DA4_fr w178 g1 ((wfr.rf (l := [(34, 999)])).put' e223 g202 rfl) rfl (DA4_fr w161 g1 f179 rfl (DA4_fr w131 g1 f162 rfl (DA4_fr hW g1 f132 rfl h122)))))
          have h254 : DA5 T H230 r1 (d 0 6) (d 15) := (DA5_fr w224 g1 ((wfr.rf (l := [(27, 14)])).put' e231 g1 rfl) rfl (DA5_fr w178 g1 ((wfr.rf (l := [(34, 999)])).put' e223 g202 rfl) rfl (DA5_fr w161 g1 f179 rfl (DA5_fr w131 g1 f162 rfl (DA5_fr hW g1 f132 rfl h123)))))
          have h255 : DA6 T H230 r1 (d 0 7 + 1) (xdof B n q d 16) := (DA6_fr w224 g1 ((wfr.rf (l := [(27, 14)])).put' e231 g1 rfl) rfl h226)
          exact wp_zreturn e43 c43_64 rfl (by omega) ⟨rfl, w232, f233, 1, rfl, ⟨by omega, by omega⟩, (Or.inl ⟨by omega, by omega, o247, by omega, by omega, h248, DC_mk ⟨by omega, by omega, by omega, by omega, by omega, by omega, by omega, by omega, by omega, by omega, by omega, by omega, by omega, by omega, by omega, by omega⟩ (DQ_cg (fun i h1 h2 => xdof_r h1 (by omega)) (by omega) (by omega) h249) h250 h251 h252 h253 h254 h255 ⟨rfl, rfl, rfl, rfl, rfl⟩ ⟨by omega, by omega, by omega⟩⟩)⟩
        · exfalso
          omega
      · have f256 := f165.tr f179 rfl
        show wp _ _ 43 28 [(0, .ref r0), (1, .ref r1)] [vI z180] _ H174 _
        refine wp_of e43 c43_28 (rw_if_ne (p1 := 33) (p2 := 31) (by decide) rfl ⟨by omega, by omega⟩ (fun c257 => ?_) (fun c257 => ?_))
        · exfalso
          omega
        · refine wp_of e43 c43_31 (rw_iconst (pc' := 32) rfl ?_)
          have k258 : H174 r1 7 = H r1 7 := ((f179 r1 7 _ g1 rfl).trans ((f162 r1 7 _ g1 rfl).trans (f132 r1 7 _ g1 rfl)))
          have k259 : H174 r1 8 = H r1 8 := ((f179 r1 8 _ g1 rfl).trans ((f162 r1 8 _ g1 rfl).trans (f132 r1 8 _ g1 rfl)))
          have k260 : H174 r1 9 = H r1 9 := ((f179 r1 9 _ g1 rfl).trans ((f162 r1 9 _ g1 rfl).trans (f132 r1 9 _ g1 rfl)))
          have k261 : H174 r1 10 = H r1 10 := ((f179 r1 10 _ g1 rfl).trans ((f162 r1 10 _ g1 rfl).trans (f132 r1 10 _ g1 rfl)))
          have k262 : H174 r1 11 = H r1 11 := ((f179 r1 11 _ g1 rfl).trans ((f162 r1 11 _ g1 rfl).trans (f132 r1 11 _ g1 rfl)))
          have k263 : H174 r1 12 = H r1 12 := ((f179 r1 12 _ g1 rfl).trans ((f162 r1 12 _ g1 rfl).trans (f132 r1 12 _ g1 rfl)))
          have k264 : H174 r1 13 = H r1 13 := ((f179 r1 13 _ g1 rfl).trans ((f162 r1 13 _ g1 rfl).trans (f132 r1 13 _ g1 rfl)))
          have k265 : H174 r1 14 = H r1 14 := ((f179 r1 14 _ g1 rfl).trans ((f162 r1 14 _ g1 rfl).trans (f132 r1 14 _ g1 rfl)))
          have k266 : H174 r1 15 = H r1 15 := ((f179 r1 15 _ g1 rfl).trans ((f162 r1 15 _ g1 rfl).trans (f132 r1 15 _ g1 rfl)))
          have k267 : H174 r1 16 = H r1 16 := ((f179 r1 16 _ g1 rfl).trans ((f162 r1 16 _ g1 rfl).trans (f132 r1 16 _ g1 rfl)))
          have o268 : (xtl B n q d) = ((xrg B n ((xN B n q)) 23 1 24 24).1, (xrg B n ((xN B n q)) 23 1 24 24).2.1, (xrg B n ((xN B n q)) 23 1 24 24).2.2) := by
            unfold xtl
            repeat first | rw [xs_0 (by omega)] | rw [xs_1 (by omega)] | rw [if_pos (by omega)] | rw [if_neg (by omega)]
            first | done | rfl | assumption | (exfalso; omega) | (refine Prod.ext ?_ (Prod.ext ?_ ?_) <;> (try dsimp only) <;> omega)
          have o268a : ((xtl B n q d)).1 = (xrg B n ((xN B n q)) 23 1 24 24).1 := by rw [o268]
          have o268b : ((xtl B n q d)).2.1 = (xrg B n ((xN B n q)) 23 1 24 24).2.1 := by rw [o268]
          have o268c : ((xtl B n q d)).2.2 = (xrg B n ((xN B n q)) 23 1 24 24).2.2 := by rw [o268]
          have _l := @xdof_v B n q d
          exact wp_zreturn e43 c43_32 rfl (by omega) ⟨rfl, w178, f256, 0, rfl, ⟨by omega, by omega⟩, (Or.inr ⟨by omega, by omega, by omega, by omega, by omega⟩)⟩
    · exfalso
      omega
  · have f269 := f0.tr f132 rfl
    show wp _ _ 43 5 [(0, .ref r0), (1, .ref r1)] [vI z133] _ H127 _
    refine wp_of e43 c43_5 (rw_if_ge (p1 := 10) (p2 := 8) (by decide) rfl ⟨by omega, by omega⟩ (fun c270 => ?_) (fun c270 => ?_))
    · exfalso
      omega
    · refine wp_of e43 c43_8 (rw_iconst (pc' := 9) rfl ?_)
      have k271 : H127 r1 7 = H r1 7 := (f132 r1 7 _ g1 rfl)
      have k272 : H127 r1 8 = H r1 8 := (f132 r1 8 _ g1 rfl)
      have k273 : H127 r1 9 = H r1 9 := (f132 r1 9 _ g1 rfl)
      have k274 : H127 r1 10 = H r1 10 := (f132 r1 10 _ g1 rfl)
      have k275 : H127 r1 11 = H r1 11 := (f132 r1 11 _ g1 rfl)
      have k276 : H127 r1 12 = H r1 12 := (f132 r1 12 _ g1 rfl)
      have k277 : H127 r1 13 = H r1 13 := (f132 r1 13 _ g1 rfl)
      have k278 : H127 r1 14 = H r1 14 := (f132 r1 14 _ g1 rfl)
      have k279 : H127 r1 15 = H r1 15 := (f132 r1 15 _ g1 rfl)
      have k280 : H127 r1 16 = H r1 16 := (f132 r1 16 _ g1 rfl)
      have o281 : (xtl B n q d) = (xkn B n q d, q, q) := by
        unfold xtl
        repeat first | rw [xs_0 (by omega)] | rw [xs_1 (by omega)] | rw [if_pos (by omega)] | rw [if_neg (by omega)]
        first | done | rfl | assumption | (exfalso; omega) | (refine Prod.ext ?_ (Prod.ext ?_ ?_) <;> (try dsimp only) <;> omega)
      have o281a : ((xtl B n q d)).1 = xkn B n q d := by rw [o281]
      have o281b : ((xtl B n q d)).2.1 = q := by rw [o281]
      have o281c : ((xtl B n q d)).2.2 = q := by rw [o281]
      have _l := @xdof_v B n q d
      exact wp_zreturn e43 c43_9 rfl (by omega) ⟨rfl, w131, f269, 0, rfl, ⟨by omega, by omega⟩, (Or.inr ⟨by omega, by omega, by omega, by omega, by omega⟩)⟩
/-! StrikeAwake$Reader.readsApart(LStrikeAwake$Parish;)Z  -/
abbrev uq_34 (r0 : Nat) (r1 : Nat) (tk : Nat) (rb : Nat) (B : Nat → Int) (n : Int) (q : Int) (d : xD) (T : wq_T) (H : wq_H) : Option Value → wq_T → wq_H → Prop := fun r T' H' => T = T' ∧ WT T H' ∧ wfr [(27, 11), (35, 14), (3, 3), (3, 4), (4, 2), (4, 3), (4, 4), (4, 5), (4, 6)] T H H' ∧ ∃ z : Int, some (vI z) = r ∧ (0 ≤ z ∧ z ≤ 1) ∧ (((z = 1) ∧ ((xap B n q d).1 = 0) ∧ (xap B n q d = (0, q, (xN B n (xN B n (xN B n q))))) ∧ (q ≤ (xN B n (xN B n (xN B n q)))) ∧ (H' r0 3 = H r0 3) ∧ TC T H' tk B n (xN B n (xN B n (xN B n q))) ∧ DC T H' r1 (xdap B n q d)) ∨ ((z = 0) ∧ ((xap B n q d).1 ≠ 0) ∧ ((xap B n q d).2.2 = (xap B n q d).2.1) ∧ (H' r0 3 = (xap B n q d).1) ∧ (H' r0 4 = (xap B n q d).2.1)))
set_option maxHeartbeats 4000000 in
theorem u_34 {kt : Nat → Option mc_E} {T : wq_T} {H : wq_H} {r0 : Nat} {r1 : Nat} {tk : Nat} {rb : Nat} {B : Nat → Int} {n : Int} {q : Int} {d : xD} (hW : WT T H) (g0 : T.2.2.2 r0 = some 3) (g1 : T.2.2.2 r1 = some 27) (qtk : H r0 0 = (tk : Int)) (gtk : T.2.2.2 tk = some 4) (qrb : H tk 0 = (rb : Int)) (grb : T.2.2.2 rb = some 2) (p0 : d 0 4 ≤ 2) (hTC_tk : TC T H tk B n q) (hDC_r1 : DC T H r1 d) (hDD_r1 : DD T H r1 ) : wpc kt 5 34 [.ref r0, .ref r1] T H (uq_34 r0 r1 tk rb B n q d T H) := by
  refine wp_enter e34 (Nat.le_of_ble_eq_true rfl) rfl ?_
  have f0 : wfr [(27, 11), (35, 14), (3, 3), (3, 4), (4, 2), (4, 3), (4, 4), (4, 5), (4, 6)] T H H := wfr.rf
  show wp _ _ 34 0 [(0, .ref r0), (1, .ref r1)] [] _ H _
  have u227 := TC_k hTC_tk
  have u228 := DC_k hDC_r1
  have h229 : ST T H r1 (d 13) := hDC_r1.2.2.1
  have h230 : SV T H r1 (d 13) 24 := hDC_r1.2.2.2.1
  have h231 : DA3 T H r1 (d 0 5) (d 12) := hDC_r1.2.2.2.2.1
  have h232 : DA4 T H r1 (d 0 6) (d 14) := hDC_r1.2.2.2.2.2.1
  have h233 : DA5 T H r1 (d 0 6) (d 15) := hDC_r1.2.2.2.2.2.2.1
  have h234 : DA6 T H r1 (d 0 7) (d 16) := hDC_r1.2.2.2.2.2.2.2
  have h235 : DG T H r1 d (xM d) := hDC_r1.2.1.1
  have _w1 := @xwho_e d B n q
  have _w2 := @xwho_e d B n (xN B n (xN B n q))
  refine wp_of e34 c34_0 (rw_aload_n (pc' := 1) (v := .ref r0) rfl rfl rfl ?_)
  refine wp_of e34 c34_1 (rw_aload_n (pc' := 2) (v := .ref r1) rfl rfl rfl ?_)
  refine wp_of e34 c34_2 (xc_V (pc' := 5) (r := r0) (as := [.ref r1]) (st := []) (lm_1_207) rfl rfl (Nat.le_of_ble_eq_true rfl) hW g0 sh_3 (by decide) rfl (by decide) (u_33 (B := B) (n := n) (q := q) (d := d) hW g0 g1 qtk gtk qrb grb hTC_tk hDC_r1) (fun R236 T237 H238 p239 => ?_))
  obtain ⟨e240, w242, f243, z244, e241, b245, p246⟩ := p239
  subst e240
  subst e241
  rcases p246 with ⟨a247, a248, a249, a250, a251⟩ | ⟨a252, a253, a254, a255⟩
  · have f256 := f0.tr f243 rfl
    show wp _ _ 34 5 [(0, .ref r0), (1, .ref r1)] [vI z244] _ H238 _
    refine wp_of e34 c34_5 (rw_istore_n (pc' := 6) (z := z244) (L' := [(2, vI z244), (0, .ref r0), (1, .ref r1)]) rfl rfl rfl ?_)
    refine wp_of e34 c34_6 (rw_iload_n (pc' := 7) (z := z244) rfl rfl ?_)
    refine wp_of e34 c34_7 (rw_if_ge (p1 := 12) (p2 := 10) (by decide) rfl ⟨by omega, by omega⟩ (fun c257 => ?_) (fun c257 => ?_))
    · refine wp_of e34 c34_12 (rw_aload_n (pc' := 13) (v := .ref r0) rfl rfl rfl ?_)
      have k258 : H238 r0 0 = H r0 0 := (f243 r0 0 _ g0 rfl)
      have q259 : H238 r0 0 = (tk : Int) := k258.trans qtk
      refine wp_of e34 c34_13 (xg_K (pc' := 16) lf_1_12 w242 g0 sh_3 (by decide) (by decide) rfl q259 rfl ?_)
      have k260 : H238 tk 0 = H tk 0 := (f243 tk 0 _ gtk rfl)
      have q261 : H238 tk 0 = (rb : Int) := k260.trans qrb
      have k262 : H238 tk 1 = H tk 1 := (f243 tk 1 _ gtk rfl)
      have k263 : H238 tk 2 = H tk 2 := (f243 tk 2 _ gtk rfl)
      have h264 : TC T H238 tk B n q := (TC_fr hW gtk f243 rfl hTC_tk)
      have h265 : TP T H238 rb B := TC_tp h264 q261
      refine wp_of e34 c34_16 (xc_V (pc' := 19) (r := tk) (as := []) (st := []) (lm_1_74) rfl rfl (Nat.le_of_ble_eq_true rfl) w242 gtk sh_4 (by decide) rfl (by decide) (u_16 (B := B) (n := n) (a := (xE B n q)) (q := (xN B n q)) w242 gtk q261 grb (by omega) (by omega) (by omega) (rfl) h265) (fun R266 T267 H268 p269 => ?_))
      obtain ⟨e270, w272, f273, e271, p274⟩ := p269
      subst e270
      subst e271
      have f276 := f256.tr f273 rfl
      show wp _ _ 34 19 [(2, vI z244), (0, .ref r0), (1, .ref r1)] [] _ H268 _
      have u277 := TC_k p274
      refine wp_of e34 c34_19 (rw_aload_n (pc' := 20) (v := .ref r0) rfl rfl rfl ?_)
      refine wp_of e34 c34_20 (rw_iconst (pc' := 21) rfl ?_)
      have k278 : H268 r0 0 = H238 r0 0 := (f273 r0 0 _ g0 rfl)
      have q279 : H268 r0 0 = (tk : Int) := k278.trans q259
      have k280 : H268 tk 0 = H238 tk 0 := (f273 tk 0 _ gtk rfl)
      have q281 : H268 tk 0 = (rb : Int) := k280.trans q261
      have k282 : H268 r0 3 = H238 r0 3 := (f273 r0 3 _ g0 rfl)
      refine wp_of e34 c34_21 (xc_V (pc' := 24) (r := r0) (as := [vI 4]) (st := []) (lm_1_51) rfl rfl (Nat.le_of_ble_eq_true rfl) w272 g0 sh_3 (by decide) rfl (by decide) (u_35 (B := B) (n := n) (q := ((xN B n q))) w272 g0 ⟨by omega, by omega⟩ q279 gtk q281 grb p274) (fun R283 T284 H285 p286 => ?_))
      obtain ⟨e287, w289, f290, z291, e288, b292, p293⟩ := p286
      subst e287
      subst e288
      rcases p293 with ⟨a294, a295, a296, a297, a298⟩ | ⟨a299, a300, a301, a302, a303⟩
      · have f304 := f276.tr f290 rfl
        show wp _ _ 34 24 [(2, vI z244), (0, .ref r0), (1, .ref r1)] [vI z291] _ H285 _
        have u305 := TC_k a298
        refine wp_of e34 c34_24 (rw_if_ne (p1 := 29) (p2 := 27) (by decide) rfl ⟨by omega, by omega⟩ (fun c306 => ?_) (fun c306 => ?_))
        · refine wp_of e34 c34_29 (rw_aload_n (pc' := 30) (v := .ref r0) rfl rfl rfl ?_)
          refine wp_of e34 c34_30 (rw_aload_n (pc' := 31) (v := .ref r1) rfl rfl rfl ?_)
          have k307 : H285 r0 0 = H268 r0 0 := (f290 r0 0 _ g0 rfl)
          have q308 : H285 r0 0 = (tk : Int) := k307.trans q279
          have k309 : H285 tk 0 = H268 tk 0 := (f290 tk 0 _ gtk rfl)
          have q310 : H285 tk 0 = (rb : Int) := k309.trans q281
          have h311 : DC T H285 r1 d := (DC_fr w272 g1 f290 rfl (DC_fr w242 g1 f273 rfl (DC_fr hW g1 f243 rfl hDC_r1)))
          refine wp_of e34 c34_31 (xc_V (pc' := 34) (r := r0) (as := [.ref r1]) (st := []) (lm_1_207) rfl rfl (Nat.le_of_ble_eq_true rfl) w289 g0 sh_3 (by decide) rfl (by decide) (u_33 (B := B) (n := n) (q := ((xN B n ((xN B n q))))) (d := d) w289 g0 g1 q308 gtk q310 grb a298 h311) (fun R312 T313 H314 p315 => ?_))
          obtain ⟨e316, w318, f319, z320, e317, b321, p322⟩ := p315
          subst e316
          subst e317
          rcases p322 with ⟨a323, a324, a325, a326, a327⟩ | ⟨a328, a329, a330, a331⟩
          · have f332 := f304.tr f319 rfl
            show wp _ _ 34 34 [(2, vI z244), (0, .ref r0), (1, .ref r1)] [vI z320] _ H314 _
            refine wp_of e34 c34_34 (rw_istore_n (pc' := 35) (z := z320) (L' := [(3, vI z320), (2, vI z244), (0, .ref r0), (1, .ref r1)]) rfl rfl rfl ?_)
            refine wp_of e34 c34_35 (rw_iload_n (pc' := 36) (z := z320) rfl rfl ?_)
            refine wp_of e34 c34_36 (rw_if_ge (p1 := 41) (p2 := 39) (by decide) rfl ⟨by omega, by omega⟩ (fun c333 => ?_) (fun c333 => ?_))
            · have _a := @xac_M d z244 z320 (by omega) (by omega)
              have _c : xac d (xwho B n q d) (xwho B n (xN B n (xN B n q)) d) = xac d z244 z320 := by rw [show xwho B n q d = z244 by omega, show xwho B n (xN B n (xN B n q)) d = z320 by omega]
              refine wp_of e34 c34_41 (rw_iload_n (pc' := 42) (z := z320) rfl rfl ?_)
              refine wp_of e34 c34_42 (rw_iload_n (pc' := 43) (z := z244) rfl rfl ?_)
              refine wp_of e34 c34_43 (rw_icmp_eq (p1 := 62) (p2 := 46) (by decide) rfl ⟨by omega, by omega⟩ ⟨by omega, by omega⟩ (fun c334 => ?_) (fun c334 => ?_))
              · refine wp_of e34 c34_62 (rw_aload_n (pc' := 63) (v := .ref r0) rfl rfl rfl ?_)
                refine wp_of e34 c34_63 (rw_iconst (pc' := 64) rfl ?_)
                have k335 : H314 r0 0 = H285 r0 0 := (f319 r0 0 _ g0 rfl)
                have q336 : H314 r0 0 = (tk : Int) := k335.trans q308
                have k337 : H314 tk 4 = H285 tk 4 := (f319 tk 4 _ gtk rfl)
                refine wp_of e34 c34_64 (xc_V (pc' := 67) (r := r0) (as := [vI 3]) (st := []) (lm_1_47) rfl rfl (Nat.le_of_ble_eq_true rfl) w318 g0 sh_3 (by decide) rfl (by decide) (u_20  w318 g0 ⟨by omega, by omega⟩ q336 gtk) (fun R338 T339 H340 p341 => ?_))
                obtain ⟨e342, w344, f345, z346, e343, b347, p348⟩ := p341
                subst e342
                subst e343
                obtain ⟨a349, a350, a351⟩ := p348
                have f352 := f332.tr f345 rfl
                show wp _ _ 34 67 [(3, vI z320), (2, vI z244), (0, .ref r0), (1, .ref r1)] [vI z346] _ H340 _
                have k353 : H340 r1 7 = H r1 7 := ((f345 r1 7 _ g1 rfl).trans ((f319 r1 7 _ g1 rfl).trans ((f290 r1 7 _ g1 rfl).trans ((f273 r1 7 _ g1 rfl).trans (f243 r1 7 _ g1 rfl)))))
                have k354 : H340 r1 8 = H r1 8 := ((f345 r1 8 _ g1 rfl).trans ((f319 r1 8 _ g1 rfl).trans ((f290 r1 8 _ g1 rfl).trans ((f273 r1 8 _ g1 rfl).trans (f243 r1 8 _ g1 rfl)))))
                have k355 : H340 r1 9 = H r1 9 := ((f345 r1 9 _ g1 rfl).trans ((f319 r1 9 _ g1 rfl).trans ((f290 r1 9 _ g1 rfl).trans ((f273 r1 9 _ g1 rfl).trans (f243 r1 9 _ g1 rfl)))))
                have k356 : H340 r1 10 = H r1 10 := ((f345 r1 10 _ g1 rfl).trans ((f319 r1 10 _ g1 rfl).trans ((f290 r1 10 _ g1 rfl).trans ((f273 r1 10 _ g1 rfl).trans (f243 r1 10 _ g1 rfl)))))
                have k357 : H340 r1 11 = H r1 11 := ((f345 r1 11 _ g1 rfl).trans ((f319 r1 11 _ g1 rfl).trans ((f290 r1 11 _ g1 rfl).trans ((f273 r1 11 _ g1 rfl).trans (f243 r1 11 _ g1 rfl)))))
                have k358 : H340 r1 12 = H r1 12 := ((f345 r1 12 _ g1 rfl).trans ((f319 r1 12 _ g1 rfl).trans ((f290 r1 12 _ g1 rfl).trans ((f273 r1 12 _ g1 rfl).trans (f243 r1 12 _ g1 rfl)))))
                have k359 : H340 r1 13 = H r1 13 := ((f345 r1 13 _ g1 rfl).trans ((f319 r1 13 _ g1 rfl).trans ((f290 r1 13 _ g1 rfl).trans ((f273 r1 13 _ g1 rfl).trans (f243 r1 13 _ g1 rfl)))))
                have k360 : H340 r1 14 = H r1 14 := ((f345 r1 14 _ g1 rfl).trans ((f319 r1 14 _ g1 rfl).trans ((f290 r1 14 _ g1 rfl).trans ((f273 r1 14 _ g1 rfl).trans (f243 r1 14 _ g1 rfl)))))
                have k361 : H340 r1 15 = H r1 15 := ((f345 r1 15 _ g1 rfl).trans ((f319 r1 15 _ g1 rfl).trans ((f290 r1 15 _ g1 rfl).trans ((f273 r1 15 _ g1 rfl).trans (f243 r1 15 _ g1 rfl)))))
                have k362 : H340 r1 16 = H r1 16 := ((f345 r1 16 _ g1 rfl).trans ((f319 r1 16 _ g1 rfl).trans ((f290 r1 16 _ g1 rfl).trans ((f273 r1 16 _ g1 rfl).trans (f243 r1 16 _ g1 rfl)))))
                have o363 : (xap B n q d) = (xac d (xwho B n q d) (xwho B n (xN B n (xN B n q)) d), (xN B n (xN B n q)), (xN B n (xN B n q))) := by
                  unfold xap
                  repeat first | rw [xs_0 (by omega)] | rw [xs_1 (by omega)] | rw [if_pos (by omega)] | rw [if_neg (by omega)]
                  first | done | rfl | assumption | (exfalso; omega) | (refine Prod.ext ?_ (Prod.ext ?_ ?_) <;> (try dsimp only) <;> omega)
                have o363a : ((xap B n q d)).1 = xac d (xwho B n q d) (xwho B n (xN B n (xN B n q)) d) := by rw [o363]
                have o363b : ((xap B n q d)).2.1 = (xN B n (xN B n q)) := by rw [o363]
                have o363c : ((xap B n q d)).2.2 = (xN B n (xN B n q)) := by rw [o363]
                have _l := @xdap_v B n q d
                exact wp_zreturn e34 c34_67 rfl (by omega) ⟨rfl, w344, f352, z346, rfl, ⟨by omega, by omega⟩, (Or.inr ⟨by omega, by omega, by omega, by omega, by omega⟩)⟩
              · refine wp_of e34 c34_46 (rw_aload_n (pc' := 47) (v := .ref r1) rfl rfl rfl ?_)
                refine wp_of e34 c34_47 (xg_R (pc' := 50) lf_1_143 w318 g1 sh_27 (by decide) (by decide) ty_27_0 rfl rfl (fun r364 q365 g366 => ?_))
                refine wp_of e34 c34_50 (rw_iload_n (pc' := 51) (z := z244) rfl rfl ?_)
                refine wp_of e34 c34_51 (xa_R (pc' := 52) (by decide) w318 g366 sh_28 (by decide) (ty_28 _) (by omega) (by omega) rfl (fun r367 q368 g369 => ?_))
                have h370 : DG T H314 r1 d (xM d) := (DG_fr w289 g1 f319 rfl (DG_fr w272 g1 f290 rfl (DG_fr w242 g1 f273 rfl (DG_fr hW g1 f243 rfl h235))))
                have := DG_at (s := z320) h370 q365 q368 (by omega) (by omega) (by omega)
                refine wp_of e34 c34_52 (xg_I (pc' := 55) lf_1_214 w318 g369 sh_35 (by decide) (by decide) ty_35_14 rfl rfl (fun b371 b372 => ?_))
                refine wp_of e34 c34_55 (rw_iload_n (pc' := 56) (z := z320) rfl rfl ?_)
                refine wp_of e34 c34_56 (xc_S (pc' := 59) (as := [vI (H314 r367 14), vI z320]) (st := []) (lm_1_217) rfl rfl (Nat.le_of_ble_eq_true rfl) rfl (by decide) (u_36  w318 ⟨by omega, by omega⟩ ⟨by omega, by omega⟩) (fun R373 T374 H375 p376 => ?_))
                obtain ⟨e377, e379, z380, e378, b381, p382⟩ := p376
                subst e377
                subst e378
                subst e379
                rcases p382 with ⟨a383, a384⟩ | ⟨a385, a386⟩
                · show wp _ _ 34 59 [(3, vI z320), (2, vI z244), (0, .ref r0), (1, .ref r1)] [vI z380] _ H314 _
                  refine wp_of e34 c34_59 (rw_if_eq (p1 := 68) (p2 := 62) (by decide) rfl ⟨by omega, by omega⟩ (fun c387 => ?_) (fun c387 => ?_))
                  · exfalso
                    omega
                  · refine wp_of e34 c34_62 (rw_aload_n (pc' := 63) (v := .ref r0) rfl rfl rfl ?_)
                    refine wp_of e34 c34_63 (rw_iconst (pc' := 64) rfl ?_)
                    have k388 : H314 r0 0 = H285 r0 0 := (f319 r0 0 _ g0 rfl)
                    have q389 : H314 r0 0 = (tk : Int) := k388.trans q308
                    have k390 : H314 tk 4 = H285 tk 4 := (f319 tk 4 _ gtk rfl)
                    refine wp_of e34 c34_64 (xc_V (pc' := 67) (r := r0) (as := [vI 3]) (st := []) (lm_1_47) rfl rfl (Nat.le_of_ble_eq_true rfl) w318 g0 sh_3 (by decide) rfl (by decide) (u_20  w318 g0 ⟨by omega, by omega⟩ q389 gtk) (fun R391 T392 H393 p394 => ?_))
                    obtain ⟨e395, w397, f398, z399, e396, b400, p401⟩ := p394
                    subst e395
                    subst e396
                    obtain ⟨a402, a403, a404⟩ := p401
                    have f405 := f332.tr f398 rfl
                    show wp _ _ 34 67 [(3, vI z320), (2, vI z244), (0, .ref r0), (1, .ref r1)] [vI z399] _ H393 _
                    have k406 : H393 r1 7 = H r1 7 := ((f398 r1 7 _ g1 rfl).trans ((f319 r1 7 _ g1 rfl).trans ((f290 r1 7 _ g1 rfl).trans ((f273 r1 7 _ g1 rfl).trans (f243 r1 7 _ g1 rfl)))))
                    have k407 : H393 r1 8 = H r1 8 := ((f398 r1 8 _ g1 rfl).trans ((f319 r1 8 _ g1 rfl).trans ((f290 r1 8 _ g1 rfl).trans ((f273 r1 8 _ g1 rfl).trans (f243 r1 8 _ g1 rfl)))))
                    have k408 : H393 r1 9 = H r1 9 := ((f398 r1 9 _ g1 rfl).trans ((f319 r1 9 _ g1 rfl).trans ((f290 r1 9 _ g1 rfl).trans ((f273 r1 9 _ g1 rfl).trans (f243 r1 9 _ g1 rfl)))))
                    have k409 : H393 r1 10 = H r1 10 := ((f398 r1 10 _ g1 rfl).trans ((f319 r1 10 _ g1 rfl).trans ((f290 r1 10 _ g1 rfl).trans ((f273 r1 10 _ g1 rfl).trans (f243 r1 10 _ g1 rfl)))))
                    have k410 : H393 r1 11 = H r1 11 := ((f398 r1 11 _ g1 rfl).trans ((f319 r1 11 _ g1 rfl).trans ((f290 r1 11 _ g1 rfl).trans ((f273 r1 11 _ g1 rfl).trans (f243 r1 11 _ g1 rfl)))))
                    have k411 : H393 r1 12 = H r1 12 := ((f398 r1 12 _ g1 rfl).trans ((f319 r1 12 _ g1 rfl).trans ((f290 r1 12 _ g1 rfl).trans ((f273 r1 12 _ g1 rfl).trans (f243 r1 12 _ g1 rfl)))))
                    have k412 : H393 r1 13 = H r1 13 := ((f398 r1 13 _ g1 rfl).trans ((f319 r1 13 _ g1 rfl).trans ((f290 r1 13 _ g1 rfl).trans ((f273 r1 13 _ g1 rfl).trans (f243 r1 13 _ g1 rfl)))))
                    have k413 : H393 r1 14 = H r1 14 := ((f398 r1 14 _ g1 rfl).trans ((f319 r1 14 _ g1 rfl).trans ((f290 r1 14 _ g1 rfl).trans ((f273 r1 14 _ g1 rfl).trans (f243 r1 14 _ g1 rfl)))))
                    have k414 : H393 r1 15 = H r1 15 := ((f398 r1 15 _ g1 rfl).trans ((f319 r1 15 _ g1 rfl).trans ((f290 r1 15 _ g1 rfl).trans ((f273 r1 15 _ g1 rfl).trans (f243 r1 15 _ g1 rfl)))))
                    have k415 : H393 r1 16 = H r1 16 := ((f398 r1 16 _ g1 rfl).trans ((f319 r1 16 _ g1 rfl).trans ((f290 r1 16 _ g1 rfl).trans ((f273 r1 16 _ g1 rfl).trans (f243 r1 16 _ g1 rfl)))))
                    have o416 : (xap B n q d) = (xac d (xwho B n q d) (xwho B n (xN B n (xN B n q)) d), (xN B n (xN B n q)), (xN B n (xN B n q))) := by
                      unfold xap
                      repeat first | rw [xs_0 (by omega)] | rw [xs_1 (by omega)] | rw [if_pos (by omega)] | rw [if_neg (by omega)]
                      first | done | rfl | assumption | (exfalso; omega) | (refine Prod.ext ?_ (Prod.ext ?_ ?_) <;> (try dsimp only) <;> omega)
                    have o416a : ((xap B n q d)).1 = xac d (xwho B n q d) (xwho B n (xN B n (xN B n q)) d) := by rw [o416]
                    have o416b : ((xap B n q d)).2.1 = (xN B n (xN B n q)) := by rw [o416]
                    have o416c : ((xap B n q d)).2.2 = (xN B n (xN B n q)) := by rw [o416]
                    have _l := @xdap_v B n q d
                    exact wp_zreturn e34 c34_67 rfl (by omega) ⟨rfl, w397, f405, z399, rfl, ⟨by omega, by omega⟩, (Or.inr ⟨by omega, by omega, by omega, by omega, by omega⟩)⟩
                · show wp _ _ 34 59 [(3, vI z320), (2, vI z244), (0, .ref r0), (1, .ref r1)] [vI z380] _ H314 _
                  refine wp_of e34 c34_59 (rw_if_eq (p1 := 68) (p2 := 62) (by decide) rfl ⟨by omega, by omega⟩ (fun c417 => ?_) (fun c417 => ?_))
                  · refine wp_of e34 c34_68 (rw_aload_n (pc' := 69) (v := .ref r0) rfl rfl rfl ?_)
                    have k418 : H314 r0 0 = H285 r0 0 := (f319 r0 0 _ g0 rfl)
                    have q419 : H314 r0 0 = (tk : Int) := k418.trans q308
                    refine wp_of e34 c34_69 (xg_K (pc' := 72) lf_1_12 w318 g0 sh_3 (by decide) (by decide) rfl q419 rfl ?_)
                    have k420 : H314 tk 0 = H285 tk 0 := (f319 tk 0 _ gtk rfl)
                    have q421 : H314 tk 0 = (rb : Int) := k420.trans q310
                    have k422 : H314 tk 1 = H285 tk 1 := (f319 tk 1 _ gtk rfl)
                    have k423 : H314 tk 2 = H285 tk 2 := (f319 tk 2 _ gtk rfl)
                    have h424 : TP T H314 rb B := (TP_fr w289 grb f319 rfl (TP_fr w272 grb f290 rfl (TP_fr w242 grb f273 rfl h265)))
                    refine wp_of e34 c34_72 (xc_V (pc' := 75) (r := tk) (as := []) (st := []) (lm_1_74) rfl rfl (Nat.le_of_ble_eq_true rfl) w318 gtk sh_4 (by decide) rfl (by decide) (u_16 (B := B) (n := n) (a := (xE B n ((xN B n ((xN B n q)))))) (q := (xN B n ((xN B n ((xN B n q)))))) w318 gtk q421 grb (by omega) (by omega) (by omega) (rfl) h424) (fun R425 T426 H427 p428 => ?_))
                    obtain ⟨e429, w431, f432, e430, p433⟩ := p428
                    subst e429
                    subst e430
                    have f435 := f332.tr f432 rfl
                    show wp _ _ 34 75 [(3, vI z320), (2, vI z244), (0, .ref r0), (1, .ref r1)] [] _ H427 _
                    have u436 := TC_k p433
                    refine wp_of e34 c34_75 (rw_aload_n (pc' := 76) (v := .ref r1) rfl rfl rfl ?_)
                    have k437 : H427 r1 0 = H314 r1 0 := (f432 r1 0 _ g1 rfl)
                    have q438 : H427 r1 0 = (r364 : Int) := k437.trans q365
                    refine wp_of e34 c34_76 (xg_K (pc' := 79) lf_1_143 w431 g1 sh_27 (by decide) (by decide) rfl q438 rfl ?_)
                    refine wp_of e34 c34_79 (rw_iload_n (pc' := 80) (z := z244) rfl rfl ?_)
                    have k439 : H427 r364 (z244.toNat) = H314 r364 (z244.toNat) := (f432 r364 (z244.toNat) _ g366 rfl)
                    have q440 : H427 r364 (z244.toNat) = (r367 : Int) := k439.trans q368
                    refine wp_of e34 c34_80 (xa_K (pc' := 81) (by decide) w431 g366 sh_28 (by decide) (by omega) (by omega) q440 rfl ?_)
                    have h441 : DG T H427 r1 d (xM d) := (DG_fr w318 g1 f432 rfl h370)
                    have := DG_at (s := z320) h441 q438 q440 (by omega) (by omega) (by omega)
                    refine wp_of e34 c34_81 (rw_dup (pc' := 82) rfl rfl ?_)
                    have k442 : H427 r367 14 = H314 r367 14 := (f432 r367 14 _ g369 rfl)
                    refine wp_of e34 c34_82 (xg_I (pc' := 85) lf_1_214 w431 g369 sh_35 (by decide) (by decide) ty_35_14 rfl rfl (fun b443 b444 => ?_))
                    refine wp_of e34 c34_85 (rw_iconst (pc' := 86) rfl ?_)
                    refine wp_of e34 c34_86 (rw_iload_n (pc' := 87) (z := z320) rfl rfl ?_)
                    refine wp_of e34 c34_87 (rw_ishl (pc' := 88) rfl ?_)
                    obtain ⟨v445, e446⟩ : ∃ x : Int, x = wq_shl 1 z320 := ⟨_, rfl⟩
                    rw [← e446]
                    have b447 : 1 ≤ v445 ∧ v445 ≤ 64 := by
                      rw [e446]
                      exact wq_shl1_6 ⟨by omega, by omega⟩
                    refine wp_of e34 c34_88 (rw_ior (pc' := 89) rfl ?_)
                    obtain ⟨v448, e449⟩ : ∃ x : Int, x = wq_or (H427 r367 14) v445 := ⟨_, rfl⟩
                    rw [← e449]
                    have b450 : -2147483648 ≤ v448 ∧ v448 ≤ 2147483647 := by
                      rw [e449]
                      exact wI_or _ _
                    have h451 : DD T H427 r1  := (DD_fr w318 g1 f432 rfl (DD_fr w289 g1 f319 rfl (DD_fr w272 g1 f290 rfl (DD_fr w242 g1 f273 rfl (DD_fr hW g1 f243 rfl hDD_r1)))))
                    have o452 : v448 = wq_or (H427 r367 14) (wq_shl 1 z320) := by
                      subst_vars
                      rfl
                    refine wp_of e34 c34_89 (xp_I (pc' := 92) lf_1_214 w431 g369 sh_35 (by decide) (by decide) ty_35_14 rfl rfl (by omega) (by omega) ⟨by omega, by omega⟩ rfl (fun H453 e454 w455 => ?_))
                    have f456 := f435.put' e454 g369 rfl
                    have k457 : H453 r367 14 = v448 := wq_u_s e454
                    have h458 : DG T H453 r1 d (wq_u (xM d) (z244).toNat (z320).toNat 1) := DG_put (s := z320) w431 g1 h441 h451 q438 q440 g369 (by omega) (by omega) (by omega) (by omega) e454 o452
                    refine wp_of e34 c34_92 (rw_aload_n (pc' := 93) (v := .ref r1) rfl rfl rfl ?_)
                    have k459 : H453 r1 0 = H427 r1 0 := (wq_u_t e454 g369 g1 rfl 0)
                    have q460 : H453 r1 0 = (r364 : Int) := k459.trans q438
                    refine wp_of e34 c34_93 (xg_K (pc' := 96) lf_1_143 w455 g1 sh_27 (by decide) (by decide) rfl q460 rfl ?_)
                    refine wp_of e34 c34_96 (rw_iload_n (pc' := 97) (z := z320) rfl rfl ?_)
                    refine wp_of e34 c34_97 (xa_R (pc' := 98) (by decide) w455 g366 sh_28 (by decide) (ty_28 _) (by omega) (by omega) rfl (fun r461 q462 g463 => ?_))
                    have := DG_at (s := z320) h458 q460 q462 (by omega) (by omega) (by omega)
                    refine wp_of e34 c34_98 (rw_dup (pc' := 99) rfl rfl ?_)
                    refine wp_of e34 c34_99 (xg_I (pc' := 102) lf_1_214 w455 g463 sh_35 (by decide) (by decide) ty_35_14 rfl rfl (fun b464 b465 => ?_))
                    refine wp_of e34 c34_102 (rw_iconst (pc' := 103) rfl ?_)
                    refine wp_of e34 c34_103 (rw_iload_n (pc' := 104) (z := z244) rfl rfl ?_)
                    refine wp_of e34 c34_104 (rw_ishl (pc' := 105) rfl ?_)
                    obtain ⟨v466, e467⟩ : ∃ x : Int, x = wq_shl 1 z244 := ⟨_, rfl⟩
                    rw [← e467]
                    have b468 : 1 ≤ v466 ∧ v466 ≤ 64 := by
                      rw [e467]
                      exact wq_shl1_6 ⟨by omega, by omega⟩
                    refine wp_of e34 c34_105 (rw_ior (pc' := 106) rfl ?_)
                    obtain ⟨v469, e470⟩ : ∃ x : Int, x = wq_or (H453 r461 14) v466 := ⟨_, rfl⟩
                    rw [← e470]
                    have b471 : -2147483648 ≤ v469 ∧ v469 ≤ 2147483647 := by
                      rw [e470]
                      exact wI_or _ _
                    have h472 : DD T H453 r1  := (DD_fr w431 g1 ((wfr.rf (l := [(35, 14)])).put' e454 g369 rfl) rfl h451)
                    have o473 : v469 = wq_or (H453 r461 14) (wq_shl 1 z244) := by
                      subst_vars
                      rfl
                    refine wp_of e34 c34_106 (xp_I (pc' := 109) lf_1_214 w455 g463 sh_35 (by decide) (by decide) ty_35_14 rfl rfl (by omega) (by omega) ⟨by omega, by omega⟩ rfl (fun H474 e475 w476 => ?_))
                    have f477 := f456.put' e475 g463 rfl
                    have k478 : H474 r461 14 = v469 := wq_u_s e475
                    have h479 : DG T H474 r1 d (wq_u (wq_u (xM d) (z244).toNat (z320).toNat 1) (z320).toNat (z244).toNat 1) := DG_put (s := z244) w455 g1 h458 h472 q460 q462 g463 (by omega) (by omega) (by omega) (by omega) e475 o473
                    refine wp_of e34 c34_109 (rw_aload_n (pc' := 110) (v := .ref r1) rfl rfl rfl ?_)
                    refine wp_of e34 c34_110 (rw_dup (pc' := 111) rfl rfl ?_)
                    have k480 : H474 r1 11 = H r1 11 := ((wq_u_t e475 g463 g1 rfl 11).trans ((wq_u_t e454 g369 g1 rfl 11).trans ((f432 r1 11 _ g1 rfl).trans ((f319 r1 11 _ g1 rfl).trans ((f290 r1 11 _ g1 rfl).trans ((f273 r1 11 _ g1 rfl).trans (f243 r1 11 _ g1 rfl)))))))
                    refine wp_of e34 c34_111 (xg_I (pc' := 114) lf_1_221 w476 g1 sh_27 (by decide) (by decide) ty_27_11 rfl rfl (fun b481 b482 => ?_))
                    refine wp_of e34 c34_114 (rw_iconst (pc' := 115) rfl ?_)
                    refine wp_of e34 c34_115 (rw_iaddw (pc' := 116) rfl ?_)
                    obtain ⟨v483, e484⟩ : ∃ x : Int, x = wq_w ((H474 r1 11) + 1) := ⟨_, rfl⟩
                    rw [← e484]
                    have b485 : -2147483648 ≤ v483 ∧ v483 ≤ 2147483647 := by
                      rw [e484]
                      exact wI_w _
                    have b486 : (-2147483648 ≤ (H474 r1 11) + 1 ∧ (H474 r1 11) + 1 ≤ 2147483647) → v483 = (H474 r1 11) + 1 := fun h => by rw [e484]; exact wq_w_id h
                    refine wp_of e34 c34_116 (xp_I (pc' := 119) lf_1_221 w476 g1 sh_27 (by decide) (by decide) ty_27_11 rfl rfl (by omega) (by omega) ⟨by omega, by omega⟩ rfl (fun H487 e488 w489 => ?_))
                    have f490 := f477.put' e488 g1 rfl
                    have k491 : H487 r1 11 = v483 := wq_u_s e488
                    refine wp_of e34 c34_119 (rw_iconst (pc' := 120) rfl ?_)
                    have k492 : H487 r0 3 = H314 r0 3 := ((wq_u_t e488 g1 g0 rfl 3).trans ((wq_u_t e475 g463 g0 rfl 3).trans ((wq_u_t e454 g369 g0 rfl 3).trans (f432 r0 3 _ g0 rfl))))
                    have k493 : H487 r1 7 = H r1 7 := ((wq_u_j e488 rfl).trans ((wq_u_t e475 g463 g1 rfl 7).trans ((wq_u_t e454 g369 g1 rfl 7).trans ((f432 r1 7 _ g1 rfl).trans ((f319 r1 7 _ g1 rfl).trans ((f290 r1 7 _ g1 rfl).trans ((f273 r1 7 _ g1 rfl).trans (f243 r1 7 _ g1 rfl))))))))
                    have k494 : H487 r1 8 = H r1 8 := ((wq_u_j e488 rfl).trans ((wq_u_t e475 g463 g1 rfl 8).trans ((wq_u_t e454 g369 g1 rfl 8).trans ((f432 r1 8 _ g1 rfl).trans ((f319 r1 8 _ g1 rfl).trans ((f290 r1 8 _ g1 rfl).trans ((f273 r1 8 _ g1 rfl).trans (f243 r1 8 _ g1 rfl))))))))
                    have k495 : H487 r1 9 = H r1 9 := ((wq_u_j e488 rfl).trans ((wq_u_t e475 g463 g1 rfl 9).trans ((wq_u_t e454 g369 g1 rfl 9).trans ((f432 r1 9 _ g1 rfl).trans ((f319 r1 9 _ g1 rfl).trans ((f290 r1 9 _ g1 rfl).trans ((f273 r1 9 _ g1 rfl).trans (f243 r1 9 _ g1 rfl))))))))
                    have k496 : H487 r1 10 = H r1 10 := ((wq_u_j e488 rfl).trans ((wq_u_t e475 g463 g1 rfl 10).trans ((wq_u_t e454 g369 g1 rfl 10).trans ((f432 r1 10 _ g1 rfl).trans ((f319 r1 10 _ g1 rfl).trans ((f290 r1 10 _ g1 rfl).trans ((f273 r1 10 _ g1 rfl).trans (f243 r1 10 _ g1 rfl))))))))
                    have k497 : H487 r1 12 = H r1 12 := ((wq_u_j e488 rfl).trans ((wq_u_t e475 g463 g1 rfl 12).trans ((wq_u_t e454 g369 g1 rfl 12).trans ((f432 r1 12 _ g1 rfl).trans ((f319 r1 12 _ g1 rfl).trans ((f290 r1 12 _ g1 rfl).trans ((f273 r1 12 _ g1 rfl).trans (f243 r1 12 _ g1 rfl))))))))
                    have k498 : H487 r1 13 = H r1 13 := ((wq_u_j e488 rfl).trans ((wq_u_t e475 g463 g1 rfl 13).trans ((wq_u_t e454 g369 g1 rfl 13).trans ((f432 r1 13 _ g1 rfl).trans ((f319 r1 13 _ g1 rfl).trans ((f290 r1 13 _ g1 rfl).trans ((f273 r1 13 _ g1 rfl).trans (f243 r1 13 _ g1 rfl))))))))
                    have k499 : H487 r1 14 = H r1 14 := ((wq_u_j e488 rfl).trans ((wq_u_t e475 g463 g1 rfl 14).trans ((wq_u_t e454 g369 g1 rfl 14).trans ((f432 r1 14 _ g1 rfl).trans ((f319 r1 14 _ g1 rfl).trans ((f290 r1 14 _ g1 rfl).trans ((f273 r1 14 _ g1 rfl).trans (f243 r1 14 _ g1 rfl))))))))
                    have k500 : H487 r1 15 = H r1 15 := ((wq_u_j e488 rfl).trans ((wq_u_t e475 g463 g1 rfl 15).trans ((wq_u_t e454 g369 g1 rfl 15).trans ((f432 r1 15 _ g1 rfl).trans ((f319 r1 15 _ g1 rfl).trans ((f290 r1 15 _ g1 rfl).trans ((f273 r1 15 _ g1 rfl).trans (f243 r1 15 _ g1 rfl))))))))
                    have k501 : H487 r1 16 = H r1 16 := ((wq_u_j e488 rfl).trans ((wq_u_t e475 g463 g1 rfl 16).trans ((wq_u_t e454 g369 g1 rfl 16).trans ((f432 r1 16 _ g1 rfl).trans ((f319 r1 16 _ g1 rfl).trans ((f290 r1 16 _ g1 rfl).trans ((f273 r1 16 _ g1 rfl).trans (f243 r1 16 _ g1 rfl))))))))
                    have o502 : (xap B n q d) = (0, q, (xN B n ((xN B n ((xN B n q)))))) := by
                      unfold xap
                      repeat first | rw [xs_0 (by omega)] | rw [xs_1 (by omega)] | rw [if_pos (by omega)] | rw [if_neg (by omega)]
                      first | done | rfl | assumption | (exfalso; omega) | (refine Prod.ext ?_ (Prod.ext ?_ ?_) <;> (try dsimp only) <;> omega)
                    have o502a : ((xap B n q d)).1 = 0 := by rw [o502]
                    have o502b : ((xap B n q d)).2.1 = q := by rw [o502]
                    have o502c : ((xap B n q d)).2.2 = (xN B n ((xN B n ((xN B n q))))) := by rw [o502]
                    have _l := @xdap_v B n q d
                    have h503 : TC T H487 tk B n (xN B n ((xN B n ((xN B n q))))) := (TC_fr w476 gtk ((wfr.rf (l := [(27, 11)])).put' e488 g1 rfl) rfl (TC_fr w455 gtk ((wfr.rf (l := [(35, 14)])).put' e475 g463 rfl) rfl (TC_fr w431 gtk ((wfr.rf (l := [(35, 14)])).put' e454 g369 rfl) rfl p433)))
                    have h504 : DG T H487 r1 d (wq_u (wq_u (xM d) (z244).toNat (z320).toNat 1) (z320).toNat (z244).toNat 1) := (DG_fr w476 g1 ((wfr.rf (l := [(27, 11)])).put' e488 g1 rfl) rfl h479)
                    have h505 : ST T H487 r1 (d 13) := (ST_fr w476 g1 ((wfr.rf (l := [(27, 11)])).put' e488 g1 rfl) rfl (ST_fr w455 g1 ((wfr.rf (l := [(35, 14)])).put' e475 g463 rfl) rfl (ST_fr w431 g1 ((wfr.rf (l := [(35, 14)])).put' e454 g369 rfl) rfl (ST_fr w318 g1 f432 rfl (ST_fr w289 g1 f319 rfl (ST_fr w272 g1 f290 rfl (ST_fr w242 g1 f273 rfl (ST_fr hW g1 f243 rfl h229))))))))
                    have h506 : SV T H487 r1 (d 13) 24 := (SV_fr w476 g1 ((wfr.rf (l := [(27, 11)])).put' e488 g1 rfl) rfl (SV_fr w455 g1 ((wfr.rf (l := [(35, 14)])).put' e475 g463 rfl) rfl (SV_fr w431 g1 ((wfr.rf (l := [(35, 14)])).put' e454 g369 rfl) rfl (SV_fr w318 g1 f432 rfl (SV_fr w289 g1 f319 rfl (SV_fr w272 g1 f290 rfl (SV_fr w242 g1 f273 rfl (SV_fr hW g1 f243 rfl h230))))))))
                    have h507 : DA3 T H487 r1 (d 0 5) (d 12) := (DA3_fr w476 g1 ((wfr.rf (l := [(27, 11)])).put' e488 g1 rfl) rfl (DA3_fr w455 g1 ((wfr.rf (l := [(35, 14)])).put' e475 g463 rfl) rfl (DA3_fr w431 g1 ((wfr.rf (l := [(35, 14)])).put' e454 g369 rfl) rfl (DA3_fr w318 g1 f432 rfl (DA3_fr w289 g1 f319 rfl (DA3_fr w272 g1 f290 rfl (DA3_fr w242 g1 f273 rfl (DA3_fr hW g1 f243 rfl h231))))))))
                    have h508 : DA4 T H487 r1 (d 0 6) (d 14) := (DA4_fr w476 g1 ((wfr.rf (l := [(27, 11)])).put' e488 g1 rfl) rfl (DA4_fr w455 g1 ((wfr.rf (l := [(35, 14)])).put' e475 g463 rfl) rfl (DA4_fr w431 g1 ((wfr.rf (l := [(35, 14)])).put' e454 g369 rfl) rfl (DA4_fr w318 g1 f432 rfl (DA4_fr w289 g1 f319 rfl (DA4_fr w272 g1 f290 rfl (DA4_fr w242 g1 f273 rfl (DA4_fr hW g1 f243 rfl h232))))))))
                    have h509 : DA5 T H487 r1 (d 0 6) (d 15) := (DA5_fr w476 g1 ((wfr.rf (l := [(27, 11)])).put' e488 g1 rfl) rfl (DA5_fr w455 g1 ((wfr.rf (l := [(35, 14)])).put' e475 g463 rfl) rfl (DA5_fr w431 g1 ((wfr.rf (l := [(35, 14)])).put' e454 g369 rfl) rfl (DA5_fr w318 g1 f432 rfl (DA5_fr w289 g1 f319 rfl (DA5_fr w272 g1 f290 rfl (DA5_fr w242 g1 f273 rfl (DA5_fr hW g1 f243 rfl h233))))))))
                    have h510 : DA6 T H487 r1 (d 0 7) (d 16) := (DA6_fr w476 g1 ((wfr.rf (l := [(27, 11)])).put' e488 g1 rfl) rfl (DA6_fr w455 g1 ((wfr.rf (l := [(35, 14)])).put' e475 g463 rfl) rfl (DA6_fr w431 g1 ((wfr.rf (l := [(35, 14)])).put' e454 g369 rfl) rfl (DA6_fr w318 g1 f432 rfl (DA6_fr w289 g1 f319 rfl (DA6_fr w272 g1 f290 rfl (DA6_fr w242 g1 f273 rfl (DA6_fr hW g1 f243 rfl h234))))))))
                    exact wp_zreturn e34 c34_120 rfl (by omega) ⟨rfl, w489, f490, 1, rfl, ⟨by omega, by omega⟩, (Or.inl ⟨by omega, by omega, o502, by omega, by omega, h503, DC_mk ⟨by omega, by omega, by omega, by omega, by omega, by omega, by omega, by omega, by omega, by omega, by omega, by omega, by omega, by omega, by omega, by omega⟩ (DQ_ap hDC_r1.2.1 (by omega) (show xwho B n q d = z244 by omega) (show xwho B n (xN B n (xN B n q)) d = z320 by omega) (by omega) (by omega) (by omega) (by omega) h504) h505 h506 h507 h508 h509 h510 ⟨rfl, rfl, rfl, rfl, rfl⟩ ⟨by omega, by omega, by omega⟩⟩)⟩
                  · exfalso
                    omega
            · exfalso
              omega
          · have f511 := f304.tr f319 rfl
            show wp _ _ 34 34 [(2, vI z244), (0, .ref r0), (1, .ref r1)] [vI z320] _ H314 _
            refine wp_of e34 c34_34 (rw_istore_n (pc' := 35) (z := z320) (L' := [(3, vI z320), (2, vI z244), (0, .ref r0), (1, .ref r1)]) rfl rfl rfl ?_)
            refine wp_of e34 c34_35 (rw_iload_n (pc' := 36) (z := z320) rfl rfl ?_)
            refine wp_of e34 c34_36 (rw_if_ge (p1 := 41) (p2 := 39) (by decide) rfl ⟨by omega, by omega⟩ (fun c512 => ?_) (fun c512 => ?_))
            · exfalso
              omega
            · refine wp_of e34 c34_39 (rw_iconst (pc' := 40) rfl ?_)
              have k513 : H314 r1 7 = H r1 7 := ((f319 r1 7 _ g1 rfl).trans ((f290 r1 7 _ g1 rfl).trans ((f273 r1 7 _ g1 rfl).trans (f243 r1 7 _ g1 rfl))))
              have k514 : H314 r1 8 = H r1 8 := ((f319 r1 8 _ g1 rfl).trans ((f290 r1 8 _ g1 rfl).trans ((f273 r1 8 _ g1 rfl).trans (f243 r1 8 _ g1 rfl))))
              have k515 : H314 r1 9 = H r1 9 := ((f319 r1 9 _ g1 rfl).trans ((f290 r1 9 _ g1 rfl).trans ((f273 r1 9 _ g1 rfl).trans (f243 r1 9 _ g1 rfl))))
              have k516 : H314 r1 10 = H r1 10 := ((f319 r1 10 _ g1 rfl).trans ((f290 r1 10 _ g1 rfl).trans ((f273 r1 10 _ g1 rfl).trans (f243 r1 10 _ g1 rfl))))
              have k517 : H314 r1 11 = H r1 11 := ((f319 r1 11 _ g1 rfl).trans ((f290 r1 11 _ g1 rfl).trans ((f273 r1 11 _ g1 rfl).trans (f243 r1 11 _ g1 rfl))))
              have k518 : H314 r1 12 = H r1 12 := ((f319 r1 12 _ g1 rfl).trans ((f290 r1 12 _ g1 rfl).trans ((f273 r1 12 _ g1 rfl).trans (f243 r1 12 _ g1 rfl))))
              have k519 : H314 r1 13 = H r1 13 := ((f319 r1 13 _ g1 rfl).trans ((f290 r1 13 _ g1 rfl).trans ((f273 r1 13 _ g1 rfl).trans (f243 r1 13 _ g1 rfl))))
              have k520 : H314 r1 14 = H r1 14 := ((f319 r1 14 _ g1 rfl).trans ((f290 r1 14 _ g1 rfl).trans ((f273 r1 14 _ g1 rfl).trans (f243 r1 14 _ g1 rfl))))
              have k521 : H314 r1 15 = H r1 15 := ((f319 r1 15 _ g1 rfl).trans ((f290 r1 15 _ g1 rfl).trans ((f273 r1 15 _ g1 rfl).trans (f243 r1 15 _ g1 rfl))))
              have k522 : H314 r1 16 = H r1 16 := ((f319 r1 16 _ g1 rfl).trans ((f290 r1 16 _ g1 rfl).trans ((f273 r1 16 _ g1 rfl).trans (f243 r1 16 _ g1 rfl))))
              have o523 : (xap B n q d) = (xkn B n ((xN B n ((xN B n q)))) d, ((xN B n ((xN B n q)))), ((xN B n ((xN B n q))))) := by
                unfold xap
                repeat first | rw [xs_0 (by omega)] | rw [xs_1 (by omega)] | rw [if_pos (by omega)] | rw [if_neg (by omega)]
                first | done | rfl | assumption | (exfalso; omega) | (refine Prod.ext ?_ (Prod.ext ?_ ?_) <;> (try dsimp only) <;> omega)
              have o523a : ((xap B n q d)).1 = xkn B n ((xN B n ((xN B n q)))) d := by rw [o523]
              have o523b : ((xap B n q d)).2.1 = ((xN B n ((xN B n q)))) := by rw [o523]
              have o523c : ((xap B n q d)).2.2 = ((xN B n ((xN B n q)))) := by rw [o523]
              have _l := @xdap_v B n q d
              exact wp_zreturn e34 c34_40 rfl (by omega) ⟨rfl, w318, f511, 0, rfl, ⟨by omega, by omega⟩, (Or.inr ⟨by omega, by omega, by omega, by omega, by omega⟩)⟩
        · exfalso
          omega
      · have f524 := f276.tr f290 rfl
        show wp _ _ 34 24 [(2, vI z244), (0, .ref r0), (1, .ref r1)] [vI z291] _ H285 _
        refine wp_of e34 c34_24 (rw_if_ne (p1 := 29) (p2 := 27) (by decide) rfl ⟨by omega, by omega⟩ (fun c525 => ?_) (fun c525 => ?_))
        · exfalso
          omega
        · refine wp_of e34 c34_27 (rw_iconst (pc' := 28) rfl ?_)
          have k526 : H285 r1 7 = H r1 7 := ((f290 r1 7 _ g1 rfl).trans ((f273 r1 7 _ g1 rfl).trans (f243 r1 7 _ g1 rfl)))
          have k527 : H285 r1 8 = H r1 8 := ((f290 r1 8 _ g1 rfl).trans ((f273 r1 8 _ g1 rfl).trans (f243 r1 8 _ g1 rfl)))
          have k528 : H285 r1 9 = H r1 9 := ((f290 r1 9 _ g1 rfl).trans ((f273 r1 9 _ g1 rfl).trans (f243 r1 9 _ g1 rfl)))
          have k529 : H285 r1 10 = H r1 10 := ((f290 r1 10 _ g1 rfl).trans ((f273 r1 10 _ g1 rfl).trans (f243 r1 10 _ g1 rfl)))
          have k530 : H285 r1 11 = H r1 11 := ((f290 r1 11 _ g1 rfl).trans ((f273 r1 11 _ g1 rfl).trans (f243 r1 11 _ g1 rfl)))
          have k531 : H285 r1 12 = H r1 12 := ((f290 r1 12 _ g1 rfl).trans ((f273 r1 12 _ g1 rfl).trans (f243 r1 12 _ g1 rfl)))
          have k532 : H285 r1 13 = H r1 13 := ((f290 r1 13 _ g1 rfl).trans ((f273 r1 13 _ g1 rfl).trans (f243 r1 13 _ g1 rfl)))
          have k533 : H285 r1 14 = H r1 14 := ((f290 r1 14 _ g1 rfl).trans ((f273 r1 14 _ g1 rfl).trans (f243 r1 14 _ g1 rfl)))
          have k534 : H285 r1 15 = H r1 15 := ((f290 r1 15 _ g1 rfl).trans ((f273 r1 15 _ g1 rfl).trans (f243 r1 15 _ g1 rfl)))
          have k535 : H285 r1 16 = H r1 16 := ((f290 r1 16 _ g1 rfl).trans ((f273 r1 16 _ g1 rfl).trans (f243 r1 16 _ g1 rfl)))
          have o536 : (xap B n q d) = (xk B n ((xN B n q)) 4, ((xN B n q)), ((xN B n q))) := by
            unfold xap
            repeat first | rw [xs_0 (by omega)] | rw [xs_1 (by omega)] | rw [if_pos (by omega)] | rw [if_neg (by omega)]
            first | done | rfl | assumption | (exfalso; omega) | (refine Prod.ext ?_ (Prod.ext ?_ ?_) <;> (try dsimp only) <;> omega)
          have o536a : ((xap B n q d)).1 = xk B n ((xN B n q)) 4 := by rw [o536]
          have o536b : ((xap B n q d)).2.1 = ((xN B n q)) := by rw [o536]
          have o536c : ((xap B n q d)).2.2 = ((xN B n q)) := by rw [o536]
          have _l := @xdap_v B n q d
          exact wp_zreturn e34 c34_28 rfl (by omega) ⟨rfl, w289, f524, 0, rfl, ⟨by omega, by omega⟩, (Or.inr ⟨by omega, by omega, by omega, by omega, by omega⟩)⟩
    · exfalso
      omega
  · have f537 := f0.tr f243 rfl
    show wp _ _ 34 5 [(0, .ref r0), (1, .ref r1)] [vI z244] _ H238 _
    refine wp_of e34 c34_5 (rw_istore_n (pc' := 6) (z := z244) (L' := [(2, vI z244), (0, .ref r0), (1, .ref r1)]) rfl rfl rfl ?_)
    refine wp_of e34 c34_6 (rw_iload_n (pc' := 7) (z := z244) rfl rfl ?_)
    refine wp_of e34 c34_7 (rw_if_ge (p1 := 12) (p2 := 10) (by decide) rfl ⟨by omega, by omega⟩ (fun c538 => ?_) (fun c538 => ?_))
    · exfalso
      omega
    · refine wp_of e34 c34_10 (rw_iconst (pc' := 11) rfl ?_)
      have k539 : H238 r1 7 = H r1 7 := (f243 r1 7 _ g1 rfl)
      have k540 : H238 r1 8 = H r1 8 := (f243 r1 8 _ g1 rfl)
      have k541 : H238 r1 9 = H r1 9 := (f243 r1 9 _ g1 rfl)
      have k542 : H238 r1 10 = H r1 10 := (f243 r1 10 _ g1 rfl)
      have k543 : H238 r1 11 = H r1 11 := (f243 r1 11 _ g1 rfl)
      have k544 : H238 r1 12 = H r1 12 := (f243 r1 12 _ g1 rfl)
      have k545 : H238 r1 13 = H r1 13 := (f243 r1 13 _ g1 rfl)
      have k546 : H238 r1 14 = H r1 14 := (f243 r1 14 _ g1 rfl)
      have k547 : H238 r1 15 = H r1 15 := (f243 r1 15 _ g1 rfl)
      have k548 : H238 r1 16 = H r1 16 := (f243 r1 16 _ g1 rfl)
      have o549 : (xap B n q d) = (xkn B n q d, q, q) := by
        unfold xap
        repeat first | rw [xs_0 (by omega)] | rw [xs_1 (by omega)] | rw [if_pos (by omega)] | rw [if_neg (by omega)]
        first | done | rfl | assumption | (exfalso; omega) | (refine Prod.ext ?_ (Prod.ext ?_ ?_) <;> (try dsimp only) <;> omega)
      have o549a : ((xap B n q d)).1 = xkn B n q d := by rw [o549]
      have o549b : ((xap B n q d)).2.1 = q := by rw [o549]
      have o549c : ((xap B n q d)).2.2 = q := by rw [o549]
      have _l := @xdap_v B n q d
      exact wp_zreturn e34 c34_11 rfl (by omega) ⟨rfl, w242, f537, 0, rfl, ⟨by omega, by omega⟩, (Or.inr ⟨by omega, by omega, by omega, by omega, by omega⟩)⟩
/-! StrikeAwake$Person.clear(J)V  -/
abbrev uq_28 (r0 : Nat) (a1 : Int) (T : wq_T) (H : wq_H) : Option Value → wq_T → wq_H → Prop := fun r T' H' => T = T' ∧ WT T H' ∧ wfr [(35, 6), (35, 11), (35, 12), (35, 13), (35, 14), (35, 15), (35, 16), (35, 17)] T H H' ∧ none = r ∧ (((H' r0 6 = a1) ∧ (H' r0 11 = -1) ∧ (H' r0 12 = 0) ∧ (H' r0 13 = 0) ∧ (H' r0 14 = 0) ∧ (∀ a, a ≠ r0 → T.2.2.2 a = some 35 → H' a = H a)))
set_option maxHeartbeats 4000000 in
theorem u_28 {kt : Nat → Option mc_E} {T : wq_T} {H : wq_H} {r0 : Nat} {a1 : Int} (hW : WT T H) (g0 : T.2.2.2 r0 = some 35) (i1 : (-9223372036854775808) ≤ a1 ∧ a1 ≤ 9223372036854775807) : wpc kt 1 28 [.ref r0, vL a1] T H (uq_28 r0 a1 T H) := by
  refine wp_enter e28 (Nat.le_of_ble_eq_true rfl) rfl ?_
  have f0 : wfr [(35, 6), (35, 11), (35, 12), (35, 13), (35, 14), (35, 15), (35, 16), (35, 17)] T H H := wfr.rf
  show wp _ _ 28 0 [(0, .ref r0), (1, vL a1)] [] _ H _
  refine wp_of e28 c28_0 (rw_aload_n (pc' := 1) (v := .ref r0) rfl rfl rfl ?_)
  refine wp_of e28 c28_1 (rw_lload_n (pc' := 2) (z := a1) rfl rfl ?_)
  refine wp_of e28 c28_2 (xp_L (pc' := 5) lf_8_31 hW g0 sh_35 (by decide) (by decide) ty_35_6 rfl rfl (by omega) (by omega) ⟨by omega, by omega⟩ rfl (fun H41 e42 w43 => ?_))
  have f44 := f0.put' e42 g0 rfl
  have k45 : H41 r0 6 = a1 := wq_u_s e42
  refine wp_of e28 c28_5 (rw_aload_n (pc' := 6) (v := .ref r0) rfl rfl rfl ?_)
  refine wp_of e28 c28_6 (rw_iconst (pc' := 7) rfl ?_)
  refine wp_of e28 c28_7 (xp_I (pc' := 10) lf_8_35 w43 g0 sh_35 (by decide) (by decide) ty_35_11 rfl rfl (by omega) (by omega) ⟨by omega, by omega⟩ rfl (fun H46 e47 w48 => ?_))
  have f49 := f44.put' e47 g0 rfl
  have k50 : H46 r0 11 = -1 := wq_u_s e47
  refine wp_of e28 c28_10 (rw_aload_n (pc' := 11) (v := .ref r0) rfl rfl rfl ?_)
  refine wp_of e28 c28_11 (rw_iconst (pc' := 12) rfl ?_)
  refine wp_of e28 c28_12 (xp_I (pc' := 15) lf_8_39 w48 g0 sh_35 (by decide) (by decide) ty_35_12 rfl rfl (by omega) (by omega) ⟨by omega, by omega⟩ rfl (fun H51 e52 w53 => ?_))
  have f54 := f49.put' e52 g0 rfl
  have k55 : H51 r0 12 = 0 := wq_u_s e52
  refine wp_of e28 c28_15 (rw_aload_n (pc' := 16) (v := .ref r0) rfl rfl rfl ?_)
  refine wp_of e28 c28_16 (rw_iconst (pc' := 17) rfl ?_)
  refine wp_of e28 c28_17 (xp_Z (pc' := 20) lf_8_42 w53 g0 sh_35 (by decide) (by decide) ty_35_13 rfl rfl (by omega) (by omega) rfl (fun H56 e57 w58 => ?_))
  have f59 := f54.put' e57 g0 rfl
  have k60 : H56 r0 13 = 0 := wq_u_s e57
  refine wp_of e28 c28_20 (rw_aload_n (pc' := 21) (v := .ref r0) rfl rfl rfl ?_)
  refine wp_of e28 c28_21 (rw_iconst (pc' := 22) rfl ?_)
  refine wp_of e28 c28_22 (xp_I (pc' := 25) lf_8_46 w58 g0 sh_35 (by decide) (by decide) ty_35_14 rfl rfl (by omega) (by omega) ⟨by omega, by omega⟩ rfl (fun H61 e62 w63 => ?_))
  have f64 := f59.put' e62 g0 rfl
  have k65 : H61 r0 14 = 0 := wq_u_s e62
  refine wp_of e28 c28_25 (rw_aload_n (pc' := 26) (v := .ref r0) rfl rfl rfl ?_)
  refine wp_of e28 c28_26 (rw_iconst (pc' := 27) rfl ?_)
  refine wp_of e28 c28_27 (xp_I (pc' := 30) lf_8_49 w63 g0 sh_35 (by decide) (by decide) ty_35_15 rfl rfl (by omega) (by omega) ⟨by omega, by omega⟩ rfl (fun H66 e67 w68 => ?_))
  have f69 := f64.put' e67 g0 rfl
  have k70 : H66 r0 15 = 0 := wq_u_s e67
  refine wp_of e28 c28_30 (rw_aload_n (pc' := 31) (v := .ref r0) rfl rfl rfl ?_)
  refine wp_of e28 c28_31 (rw_iconst (pc' := 32) rfl ?_)
  refine wp_of e28 c28_32 (xp_I (pc' := 35) lf_8_52 w68 g0 sh_35 (by decide) (by decide) ty_35_16 rfl rfl (by omega) (by omega) ⟨by omega, by omega⟩ rfl (fun H71 e72 w73 => ?_))
  have f74 := f69.put' e72 g0 rfl
  have k75 : H71 r0 16 = 0 := wq_u_s e72
  refine wp_of e28 c28_35 (rw_aload_n (pc' := 36) (v := .ref r0) rfl rfl rfl ?_)
  refine wp_of e28 c28_36 (rw_iconst (pc' := 37) rfl ?_)
  refine wp_of e28 c28_37 (xp_I (pc' := 40) lf_8_55 w73 g0 sh_35 (by decide) (by decide) ty_35_17 rfl rfl (by omega) (by omega) ⟨by omega, by omega⟩ rfl (fun H76 e77 w78 => ?_))
  have f79 := f74.put' e77 g0 rfl
  have k80 : H76 r0 17 = 0 := wq_u_s e77
  have k81 : H76 r0 6 = H41 r0 6 := ((wq_u_j e77 rfl).trans ((wq_u_j e72 rfl).trans ((wq_u_j e67 rfl).trans ((wq_u_j e62 rfl).trans ((wq_u_j e57 rfl).trans ((wq_u_j e52 rfl).trans (wq_u_j e47 rfl)))))))
  have k82 : H76 r0 11 = H46 r0 11 := ((wq_u_j e77 rfl).trans ((wq_u_j e72 rfl).trans ((wq_u_j e67 rfl).trans ((wq_u_j e62 rfl).trans ((wq_u_j e57 rfl).trans (wq_u_j e52 rfl))))))
  have k83 : H76 r0 12 = H51 r0 12 := ((wq_u_j e77 rfl).trans ((wq_u_j e72 rfl).trans ((wq_u_j e67 rfl).trans ((wq_u_j e62 rfl).trans (wq_u_j e57 rfl)))))
  have k84 : H76 r0 13 = H56 r0 13 := ((wq_u_j e77 rfl).trans ((wq_u_j e72 rfl).trans ((wq_u_j e67 rfl).trans (wq_u_j e62 rfl))))
  have k85 : H76 r0 14 = H61 r0 14 := ((wq_u_j e77 rfl).trans ((wq_u_j e72 rfl).trans (wq_u_j e67 rfl)))
  exact wp_return e28 c28_40 rfl ⟨rfl, w78, f79, rfl, ⟨by omega, by omega, by omega, by omega, by omega, (fun a ha ga => ((wq_u_nf e77 ha).trans ((wq_u_nf e72 ha).trans ((wq_u_nf e67 ha).trans ((wq_u_nf e62 ha).trans ((wq_u_nf e57 ha).trans ((wq_u_nf e52 ha).trans ((wq_u_nf e47 ha).trans (wq_u_nf e42 ha)))))))))⟩⟩
/-! StrikeAwake$Reader.readsPerson(LStrikeAwake$Parish;)Z  -/
abbrev uq_25 (r0 : Nat) (r1 : Nat) (tk : Nat) (rb : Nat) (B : Nat → Int) (n : Int) (q : Int) (d : xD) (T : wq_T) (H : wq_H) : Option Value → wq_T → wq_H → Prop := fun r T' H' => T = T' ∧ WT T H' ∧ wfr [(35, 6), (35, 7), (35, 8), (35, 9), (35, 10), (35, 11), (35, 12), (35, 13), (35, 14), (35, 15), (35, 16), (35, 17), (3, 1), (3, 2), (3, 3), (3, 4), (4, 2), (4, 3), (4, 4), (4, 5), (4, 6)] T H H' ∧ ∃ z : Int, some (vI z) = r ∧ (0 ≤ z ∧ z ≤ 1) ∧ (((z = 1) ∧ ((xbd B n q d).1 = 0) ∧ (q ≤ (xN B n (xN B n (xN B n (xN B n (xN B n (xN B n (xN B n (xN B n (xN B n q)))))))))) ∧ ((xbd B n q d).2.2 = (xN B n (xN B n (xN B n (xN B n (xN B n (xN B n (xN B n (xN B n (xN B n q)))))))))) ∧ (H' r0 3 = H r0 3) ∧ TC T H' tk B n (xN B n (xN B n (xN B n (xN B n (xN B n (xN B n (xN B n (xN B n (xN B n q))))))))) ∧ DC T H' r1 d ∧ PK T H' r1 B n q d) ∨ ((z = 0) ∧ ((xbd B n q d).1 ≠ 0) ∧ ((xbd B n q d).2.2 = (xbd B n q d).2.1) ∧ (H' r0 3 = (xbd B n q d).1) ∧ (H' r0 4 = (xbd B n q d).2.1)))
set_option maxHeartbeats 4000000 in
theorem u_25 {kt : Nat → Option mc_E} {T : wq_T} {H : wq_H} {r0 : Nat} {r1 : Nat} {tk : Nat} {rb : Nat} {B : Nat → Int} {n : Int} {q : Int} {d : xD} (hW : WT T H) (g0 : T.2.2.2 r0 = some 3) (g1 : T.2.2.2 r1 = some 27) (qtk : H r0 0 = (tk : Int)) (gtk : T.2.2.2 tk = some 4) (qrb : H tk 0 = (rb : Int)) (grb : T.2.2.2 rb = some 2) (p0 : d 0 3 ≤ 5) (hTC_tk : TC T H tk B n q) (hDC_r1 : DC T H r1 d) (hDD_r1 : DD T H r1 ) : wpc kt 4 25 [.ref r0, .ref r1] T H (uq_25 r0 r1 tk rb B n q d T H) := by
  refine wp_enter e25 (Nat.le_of_ble_eq_true rfl) rfl ?_
  have f0 : wfr [(35, 6), (35, 7), (35, 8), (35, 9), (35, 10), (35, 11), (35, 12), (35, 13), (35, 14), (35, 15), (35, 16), (35, 17), (3, 1), (3, 2), (3, 3), (3, 4), (4, 2), (4, 3), (4, 4), (4, 5), (4, 6)] T H H := wfr.rf
  show wp _ _ 25 0 [(0, .ref r0), (1, .ref r1)] [] _ H _
  have u263 := TC_k hTC_tk
  have u264 := DC_k hDC_r1
  have h265 : ST T H r1 (d 13) := hDC_r1.2.2.1
  have h266 : SV T H r1 (d 13) 24 := hDC_r1.2.2.2.1
  have h267 : DA3 T H r1 (d 0 5) (d 12) := hDC_r1.2.2.2.2.1
  have h268 : DA4 T H r1 (d 0 6) (d 14) := hDC_r1.2.2.2.2.2.1
  have h269 : DA5 T H r1 (d 0 6) (d 15) := hDC_r1.2.2.2.2.2.2.1
  have h270 : DA6 T H r1 (d 0 7) (d 16) := hDC_r1.2.2.2.2.2.2.2
  have _i := TC_i hTC_tk
  have _x := @xre_b B n q
  have _m := @xnm_b B n q d
  refine wp_of e25 c25_0 (rw_aload_n (pc' := 1) (v := .ref r0) rfl rfl rfl ?_)
  refine wp_of e25 c25_1 (xc_V (pc' := 4) (r := r0) (as := []) (st := []) (lm_1_131) rfl rfl (Nat.le_of_ble_eq_true rfl) hW g0 sh_3 (by decide) rfl (by decide) (u_26 (B := B) (n := n) (q := q) hW g0 qtk gtk qrb grb hTC_tk) (fun R271 T272 H273 p274 => ?_))
  obtain ⟨e275, e277, z278, e276, b279, p280⟩ := p274
  subst e275
  subst e276
  subst e277
  rcases p280 with ⟨a281, a282⟩ | ⟨a283, a284⟩
  · show wp _ _ 25 4 [(0, .ref r0), (1, .ref r1)] [vI z278] _ H _
    refine wp_of e25 c25_4 (rw_if_ne (p1 := 13) (p2 := 7) (by decide) rfl ⟨by omega, by omega⟩ (fun c285 => ?_) (fun c285 => ?_))
    · refine wp_of e25 c25_13 (rw_aload_n (pc' := 14) (v := .ref r1) rfl rfl rfl ?_)
      refine wp_of e25 c25_14 (rw_aload_n (pc' := 15) (v := .ref r0) rfl rfl rfl ?_)
      refine wp_of e25 c25_15 (xg_K (pc' := 18) lf_1_12 hW g0 sh_3 (by decide) (by decide) rfl qtk rfl ?_)
      refine wp_of e25 c25_18 (xg_L (pc' := 21) lf_1_135 hW gtk sh_4 (by decide) (by decide) ty_4_6 rfl rfl (fun b286 b287 => ?_))
      refine wp_of e25 c25_21 (xc_V (pc' := 24) (r := r1) (as := [vL (H tk 6)]) (st := []) (lm_1_139) rfl rfl (Nat.le_of_ble_eq_true rfl) hW g1 sh_27 (by decide) rfl (by decide) (u_27 (d := d) (y := (xY B n q)) hW g1 ⟨by omega, by omega⟩ (by omega) hDC_r1) (fun R288 T289 H290 p291 => ?_))
      obtain ⟨e292, e294, z295, e293, b296, p297⟩ := p291
      subst e292
      subst e293
      subst e294
      obtain ⟨a298, a299⟩ := p297
      show wp _ _ 25 24 [(0, .ref r0), (1, .ref r1)] [vI z295] _ H _
      refine wp_of e25 c25_24 (rw_if_lt (p1 := 33) (p2 := 27) (by decide) rfl ⟨by omega, by omega⟩ (fun c300 => ?_) (fun c300 => ?_))
      · refine wp_of e25 c25_33 (rw_aload_n (pc' := 34) (v := .ref r1) rfl rfl rfl ?_)
        refine wp_of e25 c25_34 (xg_R (pc' := 37) lf_1_143 hW g1 sh_27 (by decide) (by decide) ty_27_0 rfl rfl (fun r301 q302 g303 => ?_))
        refine wp_of e25 c25_37 (rw_aload_n (pc' := 38) (v := .ref r1) rfl rfl rfl ?_)
        refine wp_of e25 c25_38 (xg_I (pc' := 41) lf_1_44 hW g1 sh_27 (by decide) (by decide) ty_27_10 rfl rfl (fun b304 b305 => ?_))
        refine wp_of e25 c25_41 (xa_R (pc' := 42) (by decide) hW g303 sh_28 (by decide) (ty_28 _) (by omega) (by omega) rfl (fun r306 q307 g308 => ?_))
        refine wp_of e25 c25_42 (rw_astore_n (pc' := 43) (v := .ref r306) (L' := [(2, .ref r306), (0, .ref r0), (1, .ref r1)]) rfl rfl rfl rfl ?_)
        refine wp_of e25 c25_43 (rw_aload_n (pc' := 44) (v := .ref r306) rfl rfl rfl ?_)
        refine wp_of e25 c25_44 (rw_aload_n (pc' := 45) (v := .ref r0) rfl rfl rfl ?_)
        refine wp_of e25 c25_45 (xg_K (pc' := 48) lf_1_12 hW g0 sh_3 (by decide) (by decide) rfl qtk rfl ?_)
        refine wp_of e25 c25_48 (xg_L (pc' := 51) lf_1_135 hW gtk sh_4 (by decide) (by decide) ty_4_6 rfl rfl (fun b309 b310 => ?_))
        refine wp_of e25 c25_51 (xc_V (pc' := 54) (r := r306) (as := [vL (H tk 6)]) (st := []) (lm_1_147) rfl rfl (Nat.le_of_ble_eq_true rfl) hW g308 sh_35 (by decide) rfl (by decide) (u_28  hW g308 ⟨by omega, by omega⟩) (fun R311 T312 H313 p314 => ?_))
        obtain ⟨e315, w317, f318, e316, p319⟩ := p314
        subst e315
        subst e316
        obtain ⟨a320, a321, a322, a323, a324, a325⟩ := p319
        have f326 := f0.tr f318 rfl
        show wp _ _ 25 54 [(2, .ref r306), (0, .ref r0), (1, .ref r1)] [] _ H313 _
        refine wp_of e25 c25_54 (rw_aload_n (pc' := 55) (v := .ref r0) rfl rfl rfl ?_)
        have k327 : H313 r0 0 = H r0 0 := (f318 r0 0 _ g0 rfl)
        have q328 : H313 r0 0 = (tk : Int) := k327.trans qtk
        refine wp_of e25 c25_55 (xg_K (pc' := 58) lf_1_12 w317 g0 sh_3 (by decide) (by decide) rfl q328 rfl ?_)
        have k329 : H313 tk 0 = H tk 0 := (f318 tk 0 _ gtk rfl)
        have q330 : H313 tk 0 = (rb : Int) := k329.trans qrb
        have k331 : H313 tk 1 = H tk 1 := (f318 tk 1 _ gtk rfl)
        have k332 : H313 tk 2 = H tk 2 := (f318 tk 2 _ gtk rfl)
        have h333 : TC T H313 tk B n q := (TC_fr hW gtk f318 rfl hTC_tk)
        have h334 : TP T H313 rb B := TC_tp h333 q330
        refine wp_of e25 c25_58 (xc_V (pc' := 61) (r := tk) (as := []) (st := []) (lm_1_74) rfl rfl (Nat.le_of_ble_eq_true rfl) w317 gtk sh_4 (by decide) rfl (by decide) (u_16 (B := B) (n := n) (a := (xE B n q)) (q := (xN B n q)) w317 gtk q330 grb (by omega) (by omega) (by omega) (rfl) h334) (fun R335 T336 H337 p338 => ?_))
        obtain ⟨e339, w341, f342, e340, p343⟩ := p338
        subst e339
        subst e340
        have f345 := f326.tr f342 rfl
        show wp _ _ 25 61 [(2, .ref r306), (0, .ref r0), (1, .ref r1)] [] _ H337 _
        have u346 := TC_k p343
        refine wp_of e25 c25_61 (rw_aload_n (pc' := 62) (v := .ref r0) rfl rfl rfl ?_)
        refine wp_of e25 c25_62 (rw_ldcS (pc' := 64) (k := 67) rfl rfl rfl rfl ?_)
        have k347 : H337 r0 0 = H313 r0 0 := (f342 r0 0 _ g0 rfl)
        have q348 : H337 r0 0 = (tk : Int) := k347.trans q328
        have k349 : H337 tk 0 = H313 tk 0 := (f342 tk 0 _ gtk rfl)
        have q350 : H337 tk 0 = (rb : Int) := k349.trans q330
        have k351 : H337 r0 3 = H r0 3 := ((f342 r0 3 _ g0 rfl).trans (f318 r0 3 _ g0 rfl))
        refine wp_of e25 c25_64 (xc_V (pc' := 67) (r := r0) (as := [.ref 67]) (st := []) (lm_1_115) rfl rfl (Nat.le_of_ble_eq_true rfl) w341 g0 sh_3 (by decide) rfl (by decide) (u_23 (B := B) (n := n) (q := ((xN B n q))) (kk := 2212) w341 g0 rfl q348 gtk q350 grb (by decide +kernel) p343) (fun R352 T353 H354 p355 => ?_))
        obtain ⟨e356, w358, f359, z360, e357, b361, p362⟩ := p355
        subst e356
        subst e357
        rcases p362 with ⟨a363, a364, a365, a366⟩ | ⟨a367, a368, a369, a370⟩
        · have f371 := f345.tr f359 rfl
          show wp _ _ 25 67 [(2, .ref r306), (0, .ref r0), (1, .ref r1)] [vI z360] _ H354 _
          have u372 := TC_k a366
          refine wp_of e25 c25_67 (rw_if_eq (p1 := 84) (p2 := 70) (by decide) rfl ⟨by omega, by omega⟩ (fun c373 => ?_) (fun c373 => ?_))
          · exfalso
            omega
          · refine wp_of e25 c25_70 (rw_aload_n (pc' := 71) (v := .ref r0) rfl rfl rfl ?_)
            refine wp_of e25 c25_71 (rw_bipush (pc' := 73) (z := 23) rfl (by decide) ?_)
            refine wp_of e25 c25_73 (rw_iconst (pc' := 74) rfl ?_)
            refine wp_of e25 c25_74 (rw_bipush (pc' := 76) (z := 7) rfl (by decide) ?_)
            refine wp_of e25 c25_76 (rw_bipush (pc' := 78) (z := 23) rfl (by decide) ?_)
            have k374 : H354 r0 0 = H337 r0 0 := (f359 r0 0 _ g0 rfl)
            have q375 : H354 r0 0 = (tk : Int) := k374.trans q348
            have k376 : H354 tk 0 = H337 tk 0 := (f359 tk 0 _ gtk rfl)
            have q377 : H354 tk 0 = (rb : Int) := k376.trans q350
            refine wp_of e25 c25_78 (xc_V (pc' := 81) (r := r0) (as := [vI 23, vI 0, vI 7, vI 23]) (st := []) (lm_1_154) rfl rfl (Nat.le_of_ble_eq_true rfl) w358 g0 sh_3 (by decide) rfl (by decide) (u_29 (B := B) (n := n) (q := ((xN B n ((xN B n q))))) w358 g0 ⟨by omega, by omega⟩ ⟨by omega, by omega⟩ ⟨by omega, by omega⟩ ⟨by omega, by omega⟩ q375 gtk q377 grb a366) (fun R378 T379 H380 p381 => ?_))
            obtain ⟨e382, w384, f385, z386, e383, b387, p388⟩ := p381
            subst e382
            subst e383
            rcases p388 with ⟨a389, a390, a391, a392, a393, a394, a395, a396, a397⟩ | ⟨a398, a399, a400, a401, a402⟩
            · have f403 := f371.tr f385 rfl
              show wp _ _ 25 81 [(2, .ref r306), (0, .ref r0), (1, .ref r1)] [vI z386] _ H380 _
              have u404 := TC_k a397
              refine wp_of e25 c25_81 (rw_if_ne (p1 := 86) (p2 := 84) (by decide) rfl ⟨by omega, by omega⟩ (fun c405 => ?_) (fun c405 => ?_))
              · refine wp_of e25 c25_86 (rw_aload_n (pc' := 87) (v := .ref r306) rfl rfl rfl ?_)
                refine wp_of e25 c25_87 (rw_aload_n (pc' := 88) (v := .ref r0) rfl rfl rfl ?_)
                refine wp_of e25 c25_88 (xg_I (pc' := 91) lf_1_158 w384 g0 sh_3 (by decide) (by decide) ty_3_1 rfl rfl (fun b406 b407 => ?_))
                refine wp_of e25 c25_91 (xp_I (pc' := 94) lf_1_161 w384 g308 sh_35 (by decide) (by decide) ty_35_7 rfl rfl (by omega) (by omega) ⟨by omega, by omega⟩ rfl (fun H408 e409 w410 => ?_))
                have f411 := f403.put' e409 g308 rfl
                have k412 : H408 r306 7 = H380 r0 1 := wq_u_s e409
                refine wp_of e25 c25_94 (rw_aload_n (pc' := 95) (v := .ref r306) rfl rfl rfl ?_)
                refine wp_of e25 c25_95 (rw_aload_n (pc' := 96) (v := .ref r0) rfl rfl rfl ?_)
                have k413 : H408 r0 2 = H380 r0 2 := (wq_u_t e409 g308 g0 rfl 2)
                refine wp_of e25 c25_96 (xg_I (pc' := 99) lf_1_164 w410 g0 sh_3 (by decide) (by decide) ty_3_2 rfl rfl (fun b414 b415 => ?_))
                refine wp_of e25 c25_99 (xp_I (pc' := 102) lf_1_167 w410 g308 sh_35 (by decide) (by decide) ty_35_8 rfl rfl (by omega) (by omega) ⟨by omega, by omega⟩ rfl (fun H416 e417 w418 => ?_))
                have f419 := f411.put' e417 g308 rfl
                have k420 : H416 r306 8 = H408 r0 2 := wq_u_s e417
                refine wp_of e25 c25_102 (rw_aload_n (pc' := 103) (v := .ref r0) rfl rfl rfl ?_)
                refine wp_of e25 c25_103 (rw_ldcS (pc' := 105) (k := 69) rfl rfl rfl rfl ?_)
                have k421 : H416 r0 0 = H354 r0 0 := ((wq_u_t e417 g308 g0 rfl 0).trans ((wq_u_t e409 g308 g0 rfl 0).trans (f385 r0 0 _ g0 rfl)))
                have q422 : H416 r0 0 = (tk : Int) := k421.trans q375
                have k423 : H416 tk 0 = H354 tk 0 := ((wq_u_t e417 g308 gtk rfl 0).trans ((wq_u_t e409 g308 gtk rfl 0).trans (f385 tk 0 _ gtk rfl)))
                have q424 : H416 tk 0 = (rb : Int) := k423.trans q377
                have k425 : H416 r0 3 = H380 r0 3 := ((wq_u_t e417 g308 g0 rfl 3).trans (wq_u_t e409 g308 g0 rfl 3))
                have h426 : TC T H416 tk B n (xN B n (xN B n (xN B n ((xN B n ((xN B n q))))))) := (TC_fr w410 gtk ((wfr.rf (l := [(35, 8)])).put' e417 g308 rfl) rfl (TC_fr w384 gtk ((wfr.rf (l := [(35, 7)])).put' e409 g308 rfl) rfl a397))
                refine wp_of e25 c25_105 (xc_V (pc' := 108) (r := r0) (as := [.ref 69]) (st := []) (lm_1_115) rfl rfl (Nat.le_of_ble_eq_true rfl) w418 g0 sh_3 (by decide) rfl (by decide) (u_23 (B := B) (n := n) (q := ((xN B n (xN B n (xN B n ((xN B n ((xN B n q))))))))) (kk := 409031) w418 g0 rfl q422 gtk q424 grb (by decide +kernel) h426) (fun R427 T428 H429 p430 => ?_))
                obtain ⟨e431, w433, f434, z435, e432, b436, p437⟩ := p430
                subst e431
                subst e432
                rcases p437 with ⟨a438, a439, a440, a441⟩ | ⟨a442, a443, a444, a445⟩
                · have f446 := f419.tr f434 rfl
                  show wp _ _ 25 108 [(2, .ref r306), (0, .ref r0), (1, .ref r1)] [vI z435] _ H429 _
                  have u447 := TC_k a441
                  refine wp_of e25 c25_108 (rw_if_eq (p1 := 124) (p2 := 111) (by decide) rfl ⟨by omega, by omega⟩ (fun c448 => ?_) (fun c448 => ?_))
                  · exfalso
                    omega
                  · refine wp_of e25 c25_111 (rw_aload_n (pc' := 112) (v := .ref r0) rfl rfl rfl ?_)
                    refine wp_of e25 c25_112 (rw_bipush (pc' := 114) (z := 12) rfl (by decide) ?_)
                    refine wp_of e25 c25_114 (rw_iconst (pc' := 115) rfl ?_)
                    refine wp_of e25 c25_115 (rw_iconst (pc' := 116) rfl ?_)
                    refine wp_of e25 c25_116 (rw_bipush (pc' := 118) (z := 12) rfl (by decide) ?_)
                    have k449 : H429 r0 0 = H416 r0 0 := (f434 r0 0 _ g0 rfl)
                    have q450 : H429 r0 0 = (tk : Int) := k449.trans q422
                    have k451 : H429 tk 0 = H416 tk 0 := (f434 tk 0 _ gtk rfl)
                    have q452 : H429 tk 0 = (rb : Int) := k451.trans q424
                    refine wp_of e25 c25_118 (xc_V (pc' := 121) (r := r0) (as := [vI 12, vI 0, vI 4, vI 12]) (st := []) (lm_1_154) rfl rfl (Nat.le_of_ble_eq_true rfl) w433 g0 sh_3 (by decide) rfl (by decide) (u_29 (B := B) (n := n) (q := ((xN B n ((xN B n (xN B n (xN B n ((xN B n ((xN B n q))))))))))) w433 g0 ⟨by omega, by omega⟩ ⟨by omega, by omega⟩ ⟨by omega, by omega⟩ ⟨by omega, by omega⟩ q450 gtk q452 grb a441) (fun R453 T454 H455 p456 => ?_))
                    obtain ⟨e457, w459, f460, z461, e458, b462, p463⟩ := p456
                    subst e457
                    subst e458
                    rcases p463 with ⟨a464, a465, a466, a467, a468, a469, a470, a471, a472⟩ | ⟨a473, a474, a475, a476, a477⟩
                    · have f478 := f446.tr f460 rfl
                      show wp _ _ 25 121 [(2, .ref r306), (0, .ref r0), (1, .ref r1)] [vI z461] _ H455 _
                      have u479 := TC_k a472
                      refine wp_of e25 c25_121 (rw_if_ne (p1 := 126) (p2 := 124) (by decide) rfl ⟨by omega, by omega⟩ (fun c480 => ?_) (fun c480 => ?_))
                      · refine wp_of e25 c25_126 (rw_aload_n (pc' := 127) (v := .ref r306) rfl rfl rfl ?_)
                        refine wp_of e25 c25_127 (rw_aload_n (pc' := 128) (v := .ref r0) rfl rfl rfl ?_)
                        refine wp_of e25 c25_128 (xg_I (pc' := 131) lf_1_158 w459 g0 sh_3 (by decide) (by decide) ty_3_1 rfl rfl (fun b481 b482 => ?_))
                        refine wp_of e25 c25_131 (xp_I (pc' := 134) lf_1_172 w459 g308 sh_35 (by decide) (by decide) ty_35_9 rfl rfl (by omega) (by omega) ⟨by omega, by omega⟩ rfl (fun H483 e484 w485 => ?_))
                        have f486 := f478.put' e484 g308 rfl
                        have k487 : H483 r306 9 = H455 r0 1 := wq_u_s e484
                        refine wp_of e25 c25_134 (rw_aload_n (pc' := 135) (v := .ref r306) rfl rfl rfl ?_)
                        refine wp_of e25 c25_135 (rw_aload_n (pc' := 136) (v := .ref r0) rfl rfl rfl ?_)
                        have k488 : H483 r0 2 = H455 r0 2 := (wq_u_t e484 g308 g0 rfl 2)
                        refine wp_of e25 c25_136 (xg_I (pc' := 139) lf_1_164 w485 g0 sh_3 (by decide) (by decide) ty_3_2 rfl rfl (fun b489 b490 => ?_))
                        refine wp_of e25 c25_139 (xp_I (pc' := 142) lf_1_175 w485 g308 sh_35 (by decide) (by decide) ty_35_10 rfl rfl (by omega) (by omega) ⟨by omega, by omega⟩ rfl (fun H491 e492 w493 => ?_))
                        have f494 := f486.put' e492 g308 rfl
                        have k495 : H491 r306 10 = H483 r0 2 := wq_u_s e492
                        refine wp_of e25 c25_142 (rw_iconst (pc' := 143) rfl ?_)
                        have k496 : H491 r0 3 = H455 r0 3 := ((wq_u_t e492 g308 g0 rfl 3).trans (wq_u_t e484 g308 g0 rfl 3))
                        have k497 : H491 r1 7 = H r1 7 := ((wq_u_t e492 g308 g1 rfl 7).trans ((wq_u_t e484 g308 g1 rfl 7).trans ((f460 r1 7 _ g1 rfl).trans ((f434 r1 7 _ g1 rfl).trans ((wq_u_t e417 g308 g1 rfl 7).trans ((wq_u_t e409 g308 g1 rfl 7).trans ((f385 r1 7 _ g1 rfl).trans ((f359 r1 7 _ g1 rfl).trans ((f342 r1 7 _ g1 rfl).trans (f318 r1 7 _ g1 rfl))))))))))
                        have k498 : H491 r1 8 = H r1 8 := ((wq_u_t e492 g308 g1 rfl 8).trans ((wq_u_t e484 g308 g1 rfl 8).trans ((f460 r1 8 _ g1 rfl).trans ((f434 r1 8 _ g1 rfl).trans ((wq_u_t e417 g308 g1 rfl 8).trans ((wq_u_t e409 g308 g1 rfl 8).trans ((f385 r1 8 _ g1 rfl).trans ((f359 r1 8 _ g1 rfl).trans ((f342 r1 8 _ g1 rfl).trans (f318 r1 8 _ g1 rfl))))))))))
                        have k499 : H491 r1 9 = H r1 9 := ((wq_u_t e492 g308 g1 rfl 9).trans ((wq_u_t e484 g308 g1 rfl 9).trans ((f460 r1 9 _ g1 rfl).trans ((f434 r1 9 _ g1 rfl).trans ((wq_u_t e417 g308 g1 rfl 9).trans ((wq_u_t e409 g308 g1 rfl 9).trans ((f385 r1 9 _ g1 rfl).trans ((f359 r1 9 _ g1 rfl).trans ((f342 r1 9 _ g1 rfl).trans (f318 r1 9 _ g1 rfl))))))))))
                        have k500 : H491 r1 10 = H r1 10 := ((wq_u_t e492 g308 g1 rfl 10).trans ((wq_u_t e484 g308 g1 rfl 10).trans ((f460 r1 10 _ g1 rfl).trans ((f434 r1 10 _ g1 rfl).trans ((wq_u_t e417 g308 g1 rfl 10).trans ((wq_u_t e409 g308 g1 rfl 10).trans ((f385 r1 10 _ g1 rfl).trans ((f359 r1 10 _ g1 rfl).trans ((f342 r1 10 _ g1 rfl).trans (f318 r1 10 _ g1 rfl))))))))))
                        have k501 : H491 r1 11 = H r1 11 := ((wq_u_t e492 g308 g1 rfl 11).trans ((wq_u_t e484 g308 g1 rfl 11).trans ((f460 r1 11 _ g1 rfl).trans ((f434 r1 11 _ g1 rfl).trans ((wq_u_t e417 g308 g1 rfl 11).trans ((wq_u_t e409 g308 g1 rfl 11).trans ((f385 r1 11 _ g1 rfl).trans ((f359 r1 11 _ g1 rfl).trans ((f342 r1 11 _ g1 rfl).trans (f318 r1 11 _ g1 rfl))))))))))
                        have k502 : H491 r1 12 = H r1 12 := ((wq_u_t e492 g308 g1 rfl 12).trans ((wq_u_t e484 g308 g1 rfl 12).trans ((f460 r1 12 _ g1 rfl).trans ((f434 r1 12 _ g1 rfl).trans ((wq_u_t e417 g308 g1 rfl 12).trans ((wq_u_t e409 g308 g1 rfl 12).trans ((f385 r1 12 _ g1 rfl).trans ((f359 r1 12 _ g1 rfl).trans ((f342 r1 12 _ g1 rfl).trans (f318 r1 12 _ g1 rfl))))))))))
                        have k503 : H491 r1 13 = H r1 13 := ((wq_u_t e492 g308 g1 rfl 13).trans ((wq_u_t e484 g308 g1 rfl 13).trans ((f460 r1 13 _ g1 rfl).trans ((f434 r1 13 _ g1 rfl).trans ((wq_u_t e417 g308 g1 rfl 13).trans ((wq_u_t e409 g308 g1 rfl 13).trans ((f385 r1 13 _ g1 rfl).trans ((f359 r1 13 _ g1 rfl).trans ((f342 r1 13 _ g1 rfl).trans (f318 r1 13 _ g1 rfl))))))))))
                        have k504 : H491 r1 14 = H r1 14 := ((wq_u_t e492 g308 g1 rfl 14).trans ((wq_u_t e484 g308 g1 rfl 14).trans ((f460 r1 14 _ g1 rfl).trans ((f434 r1 14 _ g1 rfl).trans ((wq_u_t e417 g308 g1 rfl 14).trans ((wq_u_t e409 g308 g1 rfl 14).trans ((f385 r1 14 _ g1 rfl).trans ((f359 r1 14 _ g1 rfl).trans ((f342 r1 14 _ g1 rfl).trans (f318 r1 14 _ g1 rfl))))))))))
                        have k505 : H491 r1 15 = H r1 15 := ((wq_u_t e492 g308 g1 rfl 15).trans ((wq_u_t e484 g308 g1 rfl 15).trans ((f460 r1 15 _ g1 rfl).trans ((f434 r1 15 _ g1 rfl).trans ((wq_u_t e417 g308 g1 rfl 15).trans ((wq_u_t e409 g308 g1 rfl 15).trans ((f385 r1 15 _ g1 rfl).trans ((f359 r1 15 _ g1 rfl).trans ((f342 r1 15 _ g1 rfl).trans (f318 r1 15 _ g1 rfl))))))))))
                        have k506 : H491 r1 16 = H r1 16 := ((wq_u_t e492 g308 g1 rfl 16).trans ((wq_u_t e484 g308 g1 rfl 16).trans ((f460 r1 16 _ g1 rfl).trans ((f434 r1 16 _ g1 rfl).trans ((wq_u_t e417 g308 g1 rfl 16).trans ((wq_u_t e409 g308 g1 rfl 16).trans ((f385 r1 16 _ g1 rfl).trans ((f359 r1 16 _ g1 rfl).trans ((f342 r1 16 _ g1 rfl).trans (f318 r1 16 _ g1 rfl))))))))))
                        have k507 : H491 r306 6 = H313 r306 6 := ((wq_u_j e492 rfl).trans ((wq_u_j e484 rfl).trans ((f460 r306 6 _ g308 rfl).trans ((f434 r306 6 _ g308 rfl).trans ((wq_u_j e417 rfl).trans ((wq_u_j e409 rfl).trans ((f385 r306 6 _ g308 rfl).trans ((f359 r306 6 _ g308 rfl).trans (f342 r306 6 _ g308 rfl)))))))))
                        have k508 : H491 r306 7 = H408 r306 7 := ((wq_u_j e492 rfl).trans ((wq_u_j e484 rfl).trans ((f460 r306 7 _ g308 rfl).trans ((f434 r306 7 _ g308 rfl).trans (wq_u_j e417 rfl)))))
                        have k509 : H491 r306 8 = H416 r306 8 := ((wq_u_j e492 rfl).trans ((wq_u_j e484 rfl).trans ((f460 r306 8 _ g308 rfl).trans (f434 r306 8 _ g308 rfl))))
                        have k510 : H491 r306 9 = H483 r306 9 := (wq_u_j e492 rfl)
                        have k511 : H491 r306 11 = H313 r306 11 := ((wq_u_j e492 rfl).trans ((wq_u_j e484 rfl).trans ((f460 r306 11 _ g308 rfl).trans ((f434 r306 11 _ g308 rfl).trans ((wq_u_j e417 rfl).trans ((wq_u_j e409 rfl).trans ((f385 r306 11 _ g308 rfl).trans ((f359 r306 11 _ g308 rfl).trans (f342 r306 11 _ g308 rfl)))))))))
                        have k512 : H491 r306 12 = H313 r306 12 := ((wq_u_j e492 rfl).trans ((wq_u_j e484 rfl).trans ((f460 r306 12 _ g308 rfl).trans ((f434 r306 12 _ g308 rfl).trans ((wq_u_j e417 rfl).trans ((wq_u_j e409 rfl).trans ((f385 r306 12 _ g308 rfl).trans ((f359 r306 12 _ g308 rfl).trans (f342 r306 12 _ g308 rfl)))))))))
                        have k513 : H491 r306 13 = H313 r306 13 := ((wq_u_j e492 rfl).trans ((wq_u_j e484 rfl).trans ((f460 r306 13 _ g308 rfl).trans ((f434 r306 13 _ g308 rfl).trans ((wq_u_j e417 rfl).trans ((wq_u_j e409 rfl).trans ((f385 r306 13 _ g308 rfl).trans ((f359 r306 13 _ g308 rfl).trans (f342 r306 13 _ g308 rfl)))))))))
                        have k514 : H491 r306 14 = H313 r306 14 := ((wq_u_j e492 rfl).trans ((wq_u_j e484 rfl).trans ((f460 r306 14 _ g308 rfl).trans ((f434 r306 14 _ g308 rfl).trans ((wq_u_j e417 rfl).trans ((wq_u_j e409 rfl).trans ((f385 r306 14 _ g308 rfl).trans ((f359 r306 14 _ g308 rfl).trans (f342 r306 14 _ g308 rfl)))))))))
                        have o515 : (xbd B n q d) = (0, q, (xN B n (xN B n (xN B n ((xN B n ((xN B n (xN B n (xN B n ((xN B n ((xN B n q)))))))))))))) := by
                          unfold xbd
                          repeat first | rw [xs_0 (by omega)] | rw [xs_1 (by omega)] | rw [if_pos (by omega)] | rw [if_neg (by omega)]
                          first | done | rfl | assumption | (exfalso; omega) | (refine Prod.ext ?_ (Prod.ext ?_ ?_) <;> (try dsimp only) <;> omega)
                        have o515a : ((xbd B n q d)).1 = 0 := by rw [o515]
                        have o515b : ((xbd B n q d)).2.1 = q := by rw [o515]
                        have o515c : ((xbd B n q d)).2.2 = (xN B n (xN B n (xN B n ((xN B n ((xN B n (xN B n (xN B n ((xN B n ((xN B n q))))))))))))) := by rw [o515]
                        have h516 : TC T H491 tk B n (xN B n (xN B n (xN B n ((xN B n ((xN B n (xN B n (xN B n ((xN B n ((xN B n q))))))))))))) := (TC_fr w485 gtk ((wfr.rf (l := [(35, 10)])).put' e492 g308 rfl) rfl (TC_fr w459 gtk ((wfr.rf (l := [(35, 9)])).put' e484 g308 rfl) rfl a472))
                        have k517 : H491 r1 0 = H r1 0 := ((wq_u_t e492 g308 g1 rfl 0).trans ((wq_u_t e484 g308 g1 rfl 0).trans ((f460 r1 0 _ g1 rfl).trans ((f434 r1 0 _ g1 rfl).trans ((wq_u_t e417 g308 g1 rfl 0).trans ((wq_u_t e409 g308 g1 rfl 0).trans ((f385 r1 0 _ g1 rfl).trans ((f359 r1 0 _ g1 rfl).trans ((f342 r1 0 _ g1 rfl).trans (f318 r1 0 _ g1 rfl))))))))))
                        have q518 : H491 r1 0 = (r301 : Int) := k517.trans q302
                        have k519 : H491 r301 ((H r1 10).toNat) = H r301 ((H r1 10).toNat) := ((wq_u_t e492 g308 g303 rfl ((H r1 10).toNat)).trans ((wq_u_t e484 g308 g303 rfl ((H r1 10).toNat)).trans ((f460 r301 ((H r1 10).toNat) _ g303 rfl).trans ((f434 r301 ((H r1 10).toNat) _ g303 rfl).trans ((wq_u_t e417 g308 g303 rfl ((H r1 10).toNat)).trans ((wq_u_t e409 g308 g303 rfl ((H r1 10).toNat)).trans ((f385 r301 ((H r1 10).toNat) _ g303 rfl).trans ((f359 r301 ((H r1 10).toNat) _ g303 rfl).trans ((f342 r301 ((H r1 10).toNat) _ g303 rfl).trans (f318 r301 ((H r1 10).toNat) _ g303 rfl))))))))))
                        have q520 : H491 r301 ((H r1 10).toNat) = (r306 : Int) := k519.trans q307
                        have h521 : ST T H491 r1 (d 13) := (ST_fr w485 g1 ((wfr.rf (l := [(35, 10)])).put' e492 g308 rfl) rfl (ST_fr w459 g1 ((wfr.rf (l := [(35, 9)])).put' e484 g308 rfl) rfl (ST_fr w433 g1 f460 rfl (ST_fr w418 g1 f434 rfl (ST_fr w410 g1 ((wfr.rf (l := [(35, 8)])).put' e417 g308 rfl) rfl (ST_fr w384 g1 ((wfr.rf (l := [(35, 7)])).put' e409 g308 rfl) rfl (ST_fr w358 g1 f385 rfl (ST_fr w341 g1 f359 rfl (ST_fr w317 g1 f342 rfl (ST_fr hW g1 f318 rfl h265))))))))))
                        have h522 : SV T H491 r1 (d 13) 24 := (SV_fr w485 g1 ((wfr.rf (l := [(35, 10)])).put' e492 g308 rfl) rfl (SV_fr w459 g1 ((wfr.rf (l := [(35, 9)])).put' e484 g308 rfl) rfl (SV_fr w433 g1 f460 rfl (SV_fr w418 g1 f434 rfl (SV_fr w410 g1 ((wfr.rf (l := [(35, 8)])).put' e417 g308 rfl) rfl (SV_fr w384 g1 ((wfr.rf (l := [(35, 7)])).put' e409 g308 rfl) rfl (SV_fr w358 g1 f385 rfl (SV_fr w341 g1 f359 rfl (SV_fr w317 g1 f342 rfl (SV_fr hW g1 f318 rfl h266))))))))))
                        have h523 : DA3 T H491 r1 (d 0 5) (d 12) := (DA3_fr w485 g1 ((wfr.rf (l := [(35, 10)])).put' e492 g308 rfl) rfl (DA3_fr w459 g1 ((wfr.rf (l := [(35, 9)])).put' e484 g308 rfl) rfl (DA3_fr w433 g1 f460 rfl (DA3_fr w418 g1 f434 rfl (DA3_fr w410 g1 ((wfr.rf (l := [(35, 8)])).put' e417 g308 rfl) rfl (DA3_fr w384 g1 ((wfr.rf (l := [(35, 7)])).put' e409 g308 rfl) rfl (DA3_fr w358 g1 f385 rfl (DA3_fr w341 g1 f359 rfl (DA3_fr w317 g1 f342 rfl (DA3_fr hW g1 f318 rfl h267))))))))))
                        have h524 : DA4 T H491 r1 (d 0 6) (d 14) := (DA4_fr w485 g1 ((wfr.rf (l := [(35, 10)])).put' e492 g308 rfl) rfl (DA4_fr w459 g1 ((wfr.rf (l := [(35, 9)])).put' e484 g308 rfl) rfl (DA4_fr w433 g1 f460 rfl (DA4_fr w418 g1 f434 rfl (DA4_fr w410 g1 ((wfr.rf (l := [(35, 8)])).put' e417 g308 rfl) rfl (DA4_fr w384 g1 ((wfr.rf (l := [(35, 7)])).put' e409 g308 rfl) rfl (DA4_fr w358 g1 f385 rfl (DA4_fr w341 g1 f359 rfl (DA4_fr w317 g1 f342 rfl (DA4_fr hW g1 f318 rfl h268))))))))))
                        have h525 : DA5 T H491 r1 (d 0 6) (d 15) := (DA5_fr w485 g1 ((wfr.rf (l := [(35, 10)])).put' e492 g308 rfl) rfl (DA5_fr w459 g1 ((wfr.rf (l := [(35, 9)])).put' e484 g308 rfl) rfl (DA5_fr w433 g1 f460 rfl (DA5_fr w418 g1 f434 rfl (DA5_fr w410 g1 ((wfr.rf (l := [(35, 8)])).put' e417 g308 rfl) rfl (DA5_fr w384 g1 ((wfr.rf (l := [(35, 7)])).put' e409 g308 rfl) rfl (DA5_fr w358 g1 f385 rfl (DA5_fr w341 g1 f359 rfl (DA5_fr w317 g1 f342 rfl (DA5_fr hW g1 f318 rfl h269))))))))))
                        have h526 : DA6 T H491 r1 (d 0 7) (d 16) := (DA6_fr w485 g1 ((wfr.rf (l := [(35, 10)])).put' e492 g308 rfl) rfl (DA6_fr w459 g1 ((wfr.rf (l := [(35, 9)])).put' e484 g308 rfl) rfl (DA6_fr w433 g1 f460 rfl (DA6_fr w418 g1 f434 rfl (DA6_fr w410 g1 ((wfr.rf (l := [(35, 8)])).put' e417 g308 rfl) rfl (DA6_fr w384 g1 ((wfr.rf (l := [(35, 7)])).put' e409 g308 rfl) rfl (DA6_fr w358 g1 f385 rfl (DA6_fr w341 g1 f359 rfl (DA6_fr w317 g1 f342 rfl (DA6_fr hW g1 f318 rfl h270))))))))))
                        exact wp_zreturn e25 c25_143 rfl (by omega) ⟨rfl, w493, f494, 1, rfl, ⟨by omega, by omega⟩, (Or.inl ⟨by omega, by omega, by omega, by omega, by omega, h516, DC_mk ⟨by omega, by omega, by omega, by omega, by omega, by omega, by omega, by omega, by omega, by omega, by omega, by omega, by omega, by omega, by omega, by omega⟩ (DQ_oth hW g1 f494 rfl hDD_r1 q518 q520 (by omega) (by omega) (fun a ha ga => ((wq_u_nf e492 ha).trans ((wq_u_nf e484 ha).trans ((f460.fn ga rfl).trans ((f434.fn ga rfl).trans ((wq_u_nf e417 ha).trans ((wq_u_nf e409 ha).trans ((f385.fn ga rfl).trans ((f359.fn ga rfl).trans ((f342.fn ga rfl).trans (a325 a ha ga))))))))))) hDC_r1.2.1) h521 h522 h523 h524 h525 h526 ⟨rfl, rfl, rfl, rfl, rfl⟩ ⟨rfl, rfl, rfl⟩, ⟨r306, by rw [q518, Int.toNat_natCast, show (d 0 3).toNat = (H r1 10).toNat by omega]; exact q520, g308, by omega, by omega, by omega, by omega, by omega, by omega, by omega, by omega, by omega⟩⟩)⟩
                      · exfalso
                        omega
                    · have f527 := f446.tr f460 rfl
                      show wp _ _ 25 121 [(2, .ref r306), (0, .ref r0), (1, .ref r1)] [vI z461] _ H455 _
                      refine wp_of e25 c25_121 (rw_if_ne (p1 := 126) (p2 := 124) (by decide) rfl ⟨by omega, by omega⟩ (fun c528 => ?_) (fun c528 => ?_))
                      · exfalso
                        omega
                      · refine wp_of e25 c25_124 (rw_iconst (pc' := 125) rfl ?_)
                        have o529 : (xbd B n q d) = ((xrg B n ((xN B n ((xN B n (xN B n (xN B n ((xN B n ((xN B n q)))))))))) 12 0 4 12).1, (xrg B n ((xN B n ((xN B n (xN B n (xN B n ((xN B n ((xN B n q)))))))))) 12 0 4 12).2.1, (xrg B n ((xN B n ((xN B n (xN B n (xN B n ((xN B n ((xN B n q)))))))))) 12 0 4 12).2.2) := by
                          unfold xbd
                          repeat first | rw [xs_0 (by omega)] | rw [xs_1 (by omega)] | rw [if_pos (by omega)] | rw [if_neg (by omega)]
                          first | done | rfl | assumption | (exfalso; omega) | (refine Prod.ext ?_ (Prod.ext ?_ ?_) <;> (try dsimp only) <;> omega)
                        have o529a : ((xbd B n q d)).1 = (xrg B n ((xN B n ((xN B n (xN B n (xN B n ((xN B n ((xN B n q)))))))))) 12 0 4 12).1 := by rw [o529]
                        have o529b : ((xbd B n q d)).2.1 = (xrg B n ((xN B n ((xN B n (xN B n (xN B n ((xN B n ((xN B n q)))))))))) 12 0 4 12).2.1 := by rw [o529]
                        have o529c : ((xbd B n q d)).2.2 = (xrg B n ((xN B n ((xN B n (xN B n (xN B n ((xN B n ((xN B n q)))))))))) 12 0 4 12).2.2 := by rw [o529]
                        exact wp_zreturn e25 c25_125 rfl (by omega) ⟨rfl, w459, f527, 0, rfl, ⟨by omega, by omega⟩, (Or.inr ⟨by omega, by omega, by omega, by omega, by omega⟩)⟩
                · have f530 := f419.tr f434 rfl
                  show wp _ _ 25 108 [(2, .ref r306), (0, .ref r0), (1, .ref r1)] [vI z435] _ H429 _
                  refine wp_of e25 c25_108 (rw_if_eq (p1 := 124) (p2 := 111) (by decide) rfl ⟨by omega, by omega⟩ (fun c531 => ?_) (fun c531 => ?_))
                  · refine wp_of e25 c25_124 (rw_iconst (pc' := 125) rfl ?_)
                    have o532 : (xbd B n q d) = (xw B n ((xN B n (xN B n (xN B n ((xN B n ((xN B n q)))))))) 409031, ((xN B n (xN B n (xN B n ((xN B n ((xN B n q)))))))), ((xN B n (xN B n (xN B n ((xN B n ((xN B n q))))))))) := by
                      unfold xbd
                      repeat first | rw [xs_0 (by omega)] | rw [xs_1 (by omega)] | rw [if_pos (by omega)] | rw [if_neg (by omega)]
                      first | done | rfl | assumption | (exfalso; omega) | (refine Prod.ext ?_ (Prod.ext ?_ ?_) <;> (try dsimp only) <;> omega)
                    have o532a : ((xbd B n q d)).1 = xw B n ((xN B n (xN B n (xN B n ((xN B n ((xN B n q)))))))) 409031 := by rw [o532]
                    have o532b : ((xbd B n q d)).2.1 = ((xN B n (xN B n (xN B n ((xN B n ((xN B n q)))))))) := by rw [o532]
                    have o532c : ((xbd B n q d)).2.2 = ((xN B n (xN B n (xN B n ((xN B n ((xN B n q)))))))) := by rw [o532]
                    exact wp_zreturn e25 c25_125 rfl (by omega) ⟨rfl, w433, f530, 0, rfl, ⟨by omega, by omega⟩, (Or.inr ⟨by omega, by omega, by omega, by omega, by omega⟩)⟩
                  · exfalso
                    omega
              · exfalso
                omega
            · have f533 := f371.tr f385 rfl
              show wp _ _ 25 81 [(2, .ref r306), (0, .ref r0), (1, .ref r1)] [vI z386] _ H380 _
              refine wp_of e25 c25_81 (rw_if_ne (p1 := 86) (p2 := 84) (by decide) rfl ⟨by omega, by omega⟩ (fun c534 => ?_) (fun c534 => ?_))
              · exfalso
                omega
              · refine wp_of e25 c25_84 (rw_iconst (pc' := 85) rfl ?_)
                have o535 : (xbd B n q d) = ((xrg B n ((xN B n ((xN B n q)))) 23 0 7 23).1, (xrg B n ((xN B n ((xN B n q)))) 23 0 7 23).2.1, (xrg B n ((xN B n ((xN B n q)))) 23 0 7 23).2.2) := by
                  unfold xbd
                  repeat first | rw [xs_0 (by omega)] | rw [xs_1 (by omega)] | rw [if_pos (by omega)] | rw [if_neg (by omega)]
                  first | done | rfl | assumption | (exfalso; omega) | (refine Prod.ext ?_ (Prod.ext ?_ ?_) <;> (try dsimp only) <;> omega)
                have o535a : ((xbd B n q d)).1 = (xrg B n ((xN B n ((xN B n q)))) 23 0 7 23).1 := by rw [o535]
                have o535b : ((xbd B n q d)).2.1 = (xrg B n ((xN B n ((xN B n q)))) 23 0 7 23).2.1 := by rw [o535]
                have o535c : ((xbd B n q d)).2.2 = (xrg B n ((xN B n ((xN B n q)))) 23 0 7 23).2.2 := by rw [o535]
                exact wp_zreturn e25 c25_85 rfl (by omega) ⟨rfl, w384, f533, 0, rfl, ⟨by omega, by omega⟩, (Or.inr ⟨by omega, by omega, by omega, by omega, by omega⟩)⟩
        · have f536 := f345.tr f359 rfl
          show wp _ _ 25 67 [(2, .ref r306), (0, .ref r0), (1, .ref r1)] [vI z360] _ H354 _
          refine wp_of e25 c25_67 (rw_if_eq (p1 := 84) (p2 := 70) (by decide) rfl ⟨by omega, by omega⟩ (fun c537 => ?_) (fun c537 => ?_))
          · refine wp_of e25 c25_84 (rw_iconst (pc' := 85) rfl ?_)
            have o538 : (xbd B n q d) = (xw B n ((xN B n q)) 2212, ((xN B n q)), ((xN B n q))) := by
              unfold xbd
              repeat first | rw [xs_0 (by omega)] | rw [xs_1 (by omega)] | rw [if_pos (by omega)] | rw [if_neg (by omega)]
              first | done | rfl | assumption | (exfalso; omega) | (refine Prod.ext ?_ (Prod.ext ?_ ?_) <;> (try dsimp only) <;> omega)
            have o538a : ((xbd B n q d)).1 = xw B n ((xN B n q)) 2212 := by rw [o538]
            have o538b : ((xbd B n q d)).2.1 = ((xN B n q)) := by rw [o538]
            have o538c : ((xbd B n q d)).2.2 = ((xN B n q)) := by rw [o538]
            exact wp_zreturn e25 c25_85 rfl (by omega) ⟨rfl, w358, f536, 0, rfl, ⟨by omega, by omega⟩, (Or.inr ⟨by omega, by omega, by omega, by omega, by omega⟩)⟩
          · exfalso
            omega
      · refine wp_of e25 c25_27 (rw_aload_n (pc' := 28) (v := .ref r0) rfl rfl rfl ?_)
        refine wp_of e25 c25_28 (rw_iconst (pc' := 29) rfl ?_)
        refine wp_of e25 c25_29 (xc_V (pc' := 32) (r := r0) (as := [vI 3]) (st := []) (lm_1_47) rfl rfl (Nat.le_of_ble_eq_true rfl) hW g0 sh_3 (by decide) rfl (by decide) (u_20  hW g0 ⟨by omega, by omega⟩ qtk gtk) (fun R539 T540 H541 p542 => ?_))
        obtain ⟨e543, w545, f546, z547, e544, b548, p549⟩ := p542
        subst e543
        subst e544
        obtain ⟨a550, a551, a552⟩ := p549
        have f553 := f0.tr f546 rfl
        show wp _ _ 25 32 [(0, .ref r0), (1, .ref r1)] [vI z547] _ H541 _
        have o554 : (xbd B n q d) = (xnm B n q d, q, q) := by
          unfold xbd
          repeat first | rw [xs_0 (by omega)] | rw [xs_1 (by omega)] | rw [if_pos (by omega)] | rw [if_neg (by omega)]
          first | done | rfl | assumption | (exfalso; omega) | (refine Prod.ext ?_ (Prod.ext ?_ ?_) <;> (try dsimp only) <;> omega)
        have o554a : ((xbd B n q d)).1 = xnm B n q d := by rw [o554]
        have o554b : ((xbd B n q d)).2.1 = q := by rw [o554]
        have o554c : ((xbd B n q d)).2.2 = q := by rw [o554]
        exact wp_zreturn e25 c25_32 rfl (by omega) ⟨rfl, w545, f553, z547, rfl, ⟨by omega, by omega⟩, (Or.inr ⟨by omega, by omega, by omega, by omega, by omega⟩)⟩
    · exfalso
      omega
  · show wp _ _ 25 4 [(0, .ref r0), (1, .ref r1)] [vI z278] _ H _
    refine wp_of e25 c25_4 (rw_if_ne (p1 := 13) (p2 := 7) (by decide) rfl ⟨by omega, by omega⟩ (fun c555 => ?_) (fun c555 => ?_))
    · exfalso
      omega
    · refine wp_of e25 c25_7 (rw_aload_n (pc' := 8) (v := .ref r0) rfl rfl rfl ?_)
      refine wp_of e25 c25_8 (rw_iconst (pc' := 9) rfl ?_)
      refine wp_of e25 c25_9 (xc_V (pc' := 12) (r := r0) (as := [vI 1]) (st := []) (lm_1_47) rfl rfl (Nat.le_of_ble_eq_true rfl) hW g0 sh_3 (by decide) rfl (by decide) (u_20  hW g0 ⟨by omega, by omega⟩ qtk gtk) (fun R556 T557 H558 p559 => ?_))
      obtain ⟨e560, w562, f563, z564, e561, b565, p566⟩ := p559
      subst e560
      subst e561
      obtain ⟨a567, a568, a569⟩ := p566
      have f570 := f0.tr f563 rfl
      show wp _ _ 25 12 [(0, .ref r0), (1, .ref r1)] [vI z564] _ H558 _
      have o571 : (xbd B n q d) = (xnm B n q d, q, q) := by
        unfold xbd
        repeat first | rw [xs_0 (by omega)] | rw [xs_1 (by omega)] | rw [if_pos (by omega)] | rw [if_neg (by omega)]
        first | done | rfl | assumption | (exfalso; omega) | (refine Prod.ext ?_ (Prod.ext ?_ ?_) <;> (try dsimp only) <;> omega)
      have o571a : ((xbd B n q d)).1 = xnm B n q d := by rw [o571]
      have o571b : ((xbd B n q d)).2.1 = q := by rw [o571]
      have o571c : ((xbd B n q d)).2.2 = q := by rw [o571]
      exact wp_zreturn e25 c25_12 rfl (by omega) ⟨rfl, w562, f570, z564, rfl, ⟨by omega, by omega⟩, (Or.inr ⟨by omega, by omega, by omega, by omega, by omega⟩)⟩
