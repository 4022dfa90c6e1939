/-! what methods do (own work, written by wip/gen3/sx3.py) -/
/-! StrikeAwakeModel.readSexton()V k -/
abbrev uq_193_k (r0 : Nat) (rp : Nat) (rb : Nat) (B : Nat → Int) (n : Int) (q : Int) (d : xD) (T : wq_T) (H : wq_H) : Option Value → wq_T → wq_H → Prop := fun r T' H' => T = T' ∧ WT T H' ∧ wfr [(54, 8), (42, 8), (42, 9), (42, 10), (42, 11), (42, 12), (42, 13), (42, 14), (42, 15)] T H H' ∧ none = r ∧ ((((xl2 B n q d).1 = 0) ∧ ((xl2 B n q d).2.2 = (xN B n (xN B n q))) ∧ (q ≤ (xN B n (xN B n q))) ∧ RC T H' r0 B n (xN B n (xN B n q)) ∧ DM T H' rp r0 (xdsex B n (xN B n q) d)) ∨ (((xl2 B n q d).1 ≠ 0) ∧ RO T H' r0 ((xl2 B n q d).1) ((xl2 B n q d).2.1)))
set_option maxHeartbeats 4000000 in
theorem u_193_k {kt : Nat → Option mc_E} {T : wq_T} {H : wq_H} {r0 : Nat} {rp : Nat} {rb : Nat} {B : Nat → Int} {n : Int} {q : Int} {d : xD} (hW : WT T H) (g0 : T.2.2.2 r0 = some 42) (qrp : H r0 4 = (rp : Int)) (grp : T.2.2.2 rp = some 54) (qrb : H r0 5 = (rb : Int)) (grb : T.2.2.2 rb = some 43) (p0 : xK B n q = 1) (hRC_r0 : RC T H r0 B n q) (hDM_rp : DM T H rp r0 d) : wpc kt 6 193 [.ref r0] T H (uq_193_k r0 rp rb B n q d T H) := by
  refine wp_enter e193 (Nat.le_of_ble_eq_true rfl) rfl ?_
  have f0 : wfr [(54, 8), (42, 8), (42, 9), (42, 10), (42, 11), (42, 12), (42, 13), (42, 14), (42, 15)] T H H := wfr.rf
  show wp _ _ 193 0 [(0, .ref r0)] [] _ H _
  have u109 := RC_k hRC_r0
  have u110 := DM_k hDM_rp
  have h111 : MA9 T H rp (d 1) := hDM_rp.2.2.2.1
  have h112 : MA10 T H rp (d 2) := hDM_rp.2.2.2.2.1
  have h113 : MA11 T H rp (d 3) := hDM_rp.2.2.2.2.2.1
  have h114 : MA12 T H rp (d 4) := hDM_rp.2.2.2.2.2.2.1
  have h115 : MA13 T H rp (d 5) := hDM_rp.2.2.2.2.2.2.2.1
  have h116 : MA14 T H rp (d 6) := hDM_rp.2.2.2.2.2.2.2.2.1
  have h117 : MA15 T H rp (d 7) := hDM_rp.2.2.2.2.2.2.2.2.2.1
  have h118 : MA16 T H rp (d 8) := hDM_rp.2.2.2.2.2.2.2.2.2.2.1
  have h119 : MA17 T H rp (d 9) := hDM_rp.2.2.2.2.2.2.2.2.2.2.2.1
  have h120 : MA18 T H rp (d 10) := hDM_rp.2.2.2.2.2.2.2.2.2.2.2.2.1
  have h121 : MA19 T H rp (d 11) := hDM_rp.2.2.2.2.2.2.2.2.2.2.2.2.2.1
  have h122 : MA20 T H rp (d 12) := hDM_rp.2.2.2.2.2.2.2.2.2.2.2.2.2.2.1
  have h123 : MA21 T H rp (d 13) := hDM_rp.2.2.2.2.2.2.2.2.2.2.2.2.2.2.2.1
  have h124 : MA22 T H rp (d 14) := hDM_rp.2.2.2.2.2.2.2.2.2.2.2.2.2.2.2.2.1
  have h125 : MA23 T H rp (d 15) := hDM_rp.2.2.2.2.2.2.2.2.2.2.2.2.2.2.2.2.2.1
  have h126 : MA25 T H rp (d 17) := hDM_rp.2.2.2.2.2.2.2.2.2.2.2.2.2.2.2.2.2.2.1
  have h127 : MA26 T H rp (d 16) := hDM_rp.2.2.2.2.2.2.2.2.2.2.2.2.2.2.2.2.2.2.2
  refine wp_of e193 c193_0 (rw_aload_n (pc' := 1) (v := .ref r0) rfl rfl rfl ?_)
  refine wp_of e193 c193_1 (xg_K (pc' := 4) lf_9_166 hW g0 sh_42 (by decide) (by decide) rfl qrp rfl ?_)
  refine wp_of e193 c193_4 (xg_I (pc' := 7) lf_9_271 hW grp sh_54 (by decide) (by decide) ty_54_8 rfl rfl (fun b128 b129 => ?_))
  refine wp_of e193 c193_7 (rw_iconst (pc' := 8) rfl ?_)
  refine wp_of e193 c193_8 (rw_icmp_eq (p1 := 16) (p2 := 11) (by decide) rfl ⟨by omega, by omega⟩ ⟨by omega, by omega⟩ (fun c130 => ?_) (fun c130 => ?_))
  · refine wp_of e193 c193_16 (rw_aload_n (pc' := 17) (v := .ref r0) rfl rfl rfl ?_)
    have u131 := RC_a hRC_r0
    have h132 : TM T H rb B := RC_tm hRC_r0 qrb
    refine wp_of e193 c193_17 (xc_V (pc' := 20) (r := r0) (as := []) (st := []) (lm_9_118) rfl rfl (Nat.le_of_ble_eq_true rfl) hW g0 sh_42 (by decide) rfl (by decide) (u_172_k (B := B) (n := n) (a := (xE B n q)) (q := (xN B n q)) hW g0 qrb grb (by omega) (by omega) (by omega) (by omega) (by omega) (rfl) h132) (fun R133 T134 H135 p136 => ?_))
    obtain ⟨e137, w139, f140, e138, p141⟩ := p136
    subst e137
    subst e138
    have f143 := f0.tr f140 rfl
    show wp _ _ 193 20 [(0, .ref r0)] [] _ H135 _
    have u144 := RC_k p141
    refine wp_of e193 c193_20 (rw_aload_n (pc' := 21) (v := .ref r0) rfl rfl rfl ?_)
    have k145 : H135 r0 4 = H r0 4 := (f140 r0 4 _ g0 rfl)
    have q146 : H135 r0 4 = (rp : Int) := k145.trans qrp
    have k147 : H135 r0 5 = H r0 5 := (f140 r0 5 _ g0 rfl)
    have q148 : H135 r0 5 = (rb : Int) := k147.trans qrb
    have h149 : DM T H135 rp r0 d := (DM_fr hW grp f140 rfl hDM_rp)
    refine wp_of e193 c193_21 (xc_V (pc' := 24) (r := r0) (as := []) (st := []) (lm_9_273) rfl rfl (Nat.le_of_ble_eq_true rfl) w139 g0 sh_42 (by decide) rfl (by decide) (u_194_k (B := B) (n := n) (q := ((xN B n q))) (d := d) w139 g0 q146 grp q148 grb p141 h149) (fun R150 T151 H152 p153 => ?_))
    obtain ⟨e154, w156, f157, z158, e155, b159, p160⟩ := p153
    subst e154
    subst e155
    rcases p160 with ⟨a161, a162, a163, a164, a165⟩ | ⟨a166, a167, a168⟩
    · have f169 := f143.tr f157 rfl
      show wp _ _ 193 24 [(0, .ref r0)] [vI z158] _ H152 _
      have u170 := RC_k a165
      refine wp_of e193 c193_24 (rw_istore_n (pc' := 25) (z := z158) (L' := [(1, vI z158), (0, .ref r0)]) rfl rfl rfl ?_)
      refine wp_of e193 c193_25 (rw_aload_n (pc' := 26) (v := .ref r0) rfl rfl rfl ?_)
      refine wp_of e193 c193_26 (xg_I (pc' := 29) lf_9_75 w156 g0 sh_42 (by decide) (by decide) ty_42_9 rfl rfl (fun b171 b172 => ?_))
      refine wp_of e193 c193_29 (rw_iconst (pc' := 30) rfl ?_)
      refine wp_of e193 c193_30 (rw_icmp_eq (p1 := 41) (p2 := 33) (by decide) rfl ⟨by omega, by omega⟩ ⟨by omega, by omega⟩ (fun c173 => ?_) (fun c173 => ?_))
      · exfalso
        omega
      · refine wp_of e193 c193_33 (rw_aload_n (pc' := 34) (v := .ref r0) rfl rfl rfl ?_)
        have k174 : H152 r0 4 = H135 r0 4 := (f157 r0 4 _ g0 rfl)
        have q175 : H152 r0 4 = (rp : Int) := k174.trans q146
        refine wp_of e193 c193_34 (xg_K (pc' := 37) lf_9_166 w156 g0 sh_42 (by decide) (by decide) rfl q175 rfl ?_)
        refine wp_of e193 c193_37 (rw_iload_n (pc' := 38) (z := z158) rfl rfl ?_)
        refine wp_of e193 c193_38 (xp_I (pc' := 41) lf_9_271 w156 grp sh_54 (by decide) (by decide) ty_54_8 rfl rfl (by omega) (by omega) ⟨by omega, by omega⟩ rfl (fun H176 e177 w178 => ?_))
        have f179 := f169.put' e177 grp rfl
        have k180 : H176 rp 8 = z158 := wq_u_s e177
        have k181 : H176 rp 0 = H rp 0 := ((wq_u_j e177 rfl).trans ((f157 rp 0 _ grp rfl).trans (f140 rp 0 _ grp rfl)))
        have k182 : H176 rp 1 = H rp 1 := ((wq_u_j e177 rfl).trans ((f157 rp 1 _ grp rfl).trans (f140 rp 1 _ grp rfl)))
        have k183 : H176 rp 2 = H rp 2 := ((wq_u_j e177 rfl).trans ((f157 rp 2 _ grp rfl).trans (f140 rp 2 _ grp rfl)))
        have k184 : H176 rp 3 = H rp 3 := ((wq_u_j e177 rfl).trans ((f157 rp 3 _ grp rfl).trans (f140 rp 3 _ grp rfl)))
        have k185 : H176 rp 4 = H rp 4 := ((wq_u_j e177 rfl).trans ((f157 rp 4 _ grp rfl).trans (f140 rp 4 _ grp rfl)))
        have k186 : H176 rp 5 = H rp 5 := ((wq_u_j e177 rfl).trans ((f157 rp 5 _ grp rfl).trans (f140 rp 5 _ grp rfl)))
        have k187 : H176 rp 6 = H rp 6 := ((wq_u_j e177 rfl).trans ((f157 rp 6 _ grp rfl).trans (f140 rp 6 _ grp rfl)))
        have k188 : H176 rp 7 = H rp 7 := ((wq_u_j e177 rfl).trans ((f157 rp 7 _ grp rfl).trans (f140 rp 7 _ grp rfl)))
        have k189 : H176 r0 16 = H r0 16 := ((wq_u_t e177 grp g0 rfl 16).trans ((f157 r0 16 _ g0 rfl).trans (f140 r0 16 _ g0 rfl)))
        have o190 : (xl2 B n q d) = (0, (xN B n q), (xN B n ((xN B n q)))) := by
          unfold xl2 xsex
          repeat first | rw [xs_0 (by omega)] | rw [xs_1 (by omega)] | rw [if_pos (by omega)] | rw [if_neg (by omega)]
          first | done | rfl | assumption | (exfalso; omega) | (refine Prod.ext ?_ (Prod.ext ?_ ?_) <;> (try dsimp only) <;> omega)
        have o190a : ((xl2 B n q d)).1 = 0 := by rw [o190]
        have o190b : ((xl2 B n q d)).2.1 = (xN B n q) := by rw [o190]
        have o190c : ((xl2 B n q d)).2.2 = (xN B n ((xN B n q))) := by rw [o190]
        have _l := @xdsex_v B n (xN B n q) d
        have _w := @xwho_e d B n (xN B n q)
        have h191 : RC T H176 r0 B n (xN B n ((xN B n q))) := (RC_fr w156 g0 ((wfr.rf (l := [(54, 8)])).put' e177 grp rfl) rfl a165)
        have h192 : MA9 T H176 rp (d 1) := (MA9_fr w156 grp ((wfr.rf (l := [(54, 8)])).put' e177 grp rfl) rfl (MA9_fr w139 grp f157 rfl (MA9_fr hW grp f140 rfl h111)))
        have h193 : MA10 T H176 rp (d 2) := (MA10_fr w156 grp ((wfr.rf (l := [(54, 8)])).put' e177 grp rfl) rfl (MA10_fr w139 grp f157 rfl (MA10_fr hW grp f140 rfl h112)))
        have h194 : MA11 T H176 rp (d 3) := (MA11_fr w156 grp ((wfr.rf (l := [(54, 8)])).put' e177 grp rfl) rfl (MA11_fr w139 grp f157 rfl (MA11_fr hW grp f140 rfl h113)))
        have h195 : MA12 T H176 rp (d 4) := (MA12_fr w156 grp ((wfr.rf (l := [(54, 8)])).put' e177 grp rfl) rfl (MA12_fr w139 grp f157 rfl (MA12_fr hW grp f140 rfl h114)))
        have h196 : MA13 T H176 rp (d 5) := (MA13_fr w156 grp ((wfr.rf (l := [(54, 8)])).put' e177 grp rfl) rfl (MA13_fr w139 grp f157 rfl (MA13_fr hW grp f140 rfl h115)))
        have h197 : MA14 T H176 rp (d 6) := (MA14_fr w156 grp ((wfr.rf (l := [(54, 8)])).put' e177 grp rfl) rfl (MA14_fr w139 grp f157 rfl (MA14_fr hW grp f140 rfl h116)))
        have h198 : MA15 T H176 rp (d 7) := (MA15_fr w156 grp ((wfr.rf (l := [(54, 8)])).put' e177 grp rfl) rfl (MA15_fr w139 grp f157 rfl (MA15_fr hW grp f140 rfl h117)))
        have h199 : MA16 T H176 rp (d 8) := (MA16_fr w156 grp ((wfr.rf (l := [(54, 8)])).put' e177 grp rfl) rfl (MA16_fr w139 grp f157 rfl (MA16_fr hW grp f140 rfl h118)))
        have h200 : MA17 T H176 rp (d 9) := (MA17_fr w156 grp ((wfr.rf (l := [(54, 8)])).put' e177 grp rfl) rfl (MA17_fr w139 grp f157 rfl (MA17_fr hW grp f140 rfl h119)))
        have h201 : MA18 T H176 rp (d 10) := (MA18_fr w156 grp ((wfr.rf (l := [(54, 8)])).put' e177 grp rfl) rfl (MA18_fr w139 grp f157 rfl (MA18_fr hW grp f140 rfl h120)))
        have h202 : MA19 T H176 rp (d 11) := (MA19_fr w156 grp ((wfr.rf (l := [(54, 8)])).put' e177 grp rfl) rfl (MA19_fr w139 grp f157 rfl (MA19_fr hW grp f140 rfl h121)))
        have h203 : MA20 T H176 rp (d 12) := (MA20_fr w156 grp ((wfr.rf (l := [(54, 8)])).put' e177 grp rfl) rfl (MA20_fr w139 grp f157 rfl (MA20_fr hW grp f140 rfl h122)))
        have h204 : MA21 T H176 rp (d 13) := (MA21_fr w156 grp ((wfr.rf (l := [(54, 8)])).put' e177 grp rfl) rfl (MA21_fr w139 grp f157 rfl (MA21_fr hW grp f140 rfl h123)))
        have h205 : MA22 T H176 rp (d 14) := (MA22_fr w156 grp ((wfr.rf (l := [(54, 8)])).put' e177 grp rfl) rfl (MA22_fr w139 grp f157 rfl (MA22_fr hW grp f140 rfl h124)))
        have h206 : MA23 T H176 rp (d 15) := (MA23_fr w156 grp ((wfr.rf (l := [(54, 8)])).put' e177 grp rfl) rfl (MA23_fr w139 grp f157 rfl (MA23_fr hW grp f140 rfl h125)))
        have h207 : MA25 T H176 rp (d 17) := (MA25_fr w156 grp ((wfr.rf (l := [(54, 8)])).put' e177 grp rfl) rfl (MA25_fr w139 grp f157 rfl (MA25_fr hW grp f140 rfl h126)))
        have h208 : MA26 T H176 rp (d 16) := (MA26_fr w156 grp ((wfr.rf (l := [(54, 8)])).put' e177 grp rfl) rfl (MA26_fr w139 grp f157 rfl (MA26_fr hW grp f140 rfl h127)))
        exact wp_return e193 c193_41 rfl ⟨rfl, w178, f179, rfl, (Or.inl ⟨by omega, by omega, by omega, h191, DM_mk hDM_rp.1 ⟨by omega, by omega, by omega, by omega, by omega, by omega, by omega, by omega, by omega, by omega, by omega, by omega⟩ (xdP_cg hDM_rp.2.2.1 (fun i h1 h2 => by unfold xdsex; rw [wq_u_row (by omega)])) h192 h193 h194 h195 h196 h197 h198 h199 h200 h201 h202 h203 h204 h205 h206 h207 h208 ⟨(by unfold xdsex; rw [wq_u_row (by decide)]), (by unfold xdsex; rw [wq_u_row (by decide)]), (by unfold xdsex; rw [wq_u_row (by decide)]), (by unfold xdsex; rw [wq_u_row (by decide)]), (by unfold xdsex; rw [wq_u_row (by decide)]), (by unfold xdsex; rw [wq_u_row (by decide)]), (by unfold xdsex; rw [wq_u_row (by decide)]), (by unfold xdsex; rw [wq_u_row (by decide)]), (by unfold xdsex; rw [wq_u_row (by decide)]), (by unfold xdsex; rw [wq_u_row (by decide)]), (by unfold xdsex; rw [wq_u_row (by decide)]), (by unfold xdsex; rw [wq_u_row (by decide)]), (by unfold xdsex; rw [wq_u_row (by decide)]), (by unfold xdsex; rw [wq_u_row (by decide)]), (by unfold xdsex; rw [wq_u_row (by decide)]), (by unfold xdsex; rw [wq_u_row (by decide)]), (by unfold xdsex; rw [wq_u_row (by decide)])⟩⟩)⟩
    · have f209 := f143.tr f157 rfl
      show wp _ _ 193 24 [(0, .ref r0)] [vI z158] _ H152 _
      have u210 := RO_k a168
      refine wp_of e193 c193_24 (rw_istore_n (pc' := 25) (z := z158) (L' := [(1, vI z158), (0, .ref r0)]) rfl rfl rfl ?_)
      refine wp_of e193 c193_25 (rw_aload_n (pc' := 26) (v := .ref r0) rfl rfl rfl ?_)
      refine wp_of e193 c193_26 (xg_I (pc' := 29) lf_9_75 w156 g0 sh_42 (by decide) (by decide) ty_42_9 rfl rfl (fun b211 b212 => ?_))
      refine wp_of e193 c193_29 (rw_iconst (pc' := 30) rfl ?_)
      refine wp_of e193 c193_30 (rw_icmp_eq (p1 := 41) (p2 := 33) (by decide) rfl ⟨by omega, by omega⟩ ⟨by omega, by omega⟩ (fun c213 => ?_) (fun c213 => ?_))
      · have o214 : (xl2 B n q d) = (xkn B n ((xN B n q)) d, ((xN B n q)), ((xN B n q))) := by
          unfold xl2 xsex
          repeat first | rw [xs_0 (by omega)] | rw [xs_1 (by omega)] | rw [if_pos (by omega)] | rw [if_neg (by omega)]
          first | done | rfl | assumption | (exfalso; omega) | (refine Prod.ext ?_ (Prod.ext ?_ ?_) <;> (try dsimp only) <;> omega)
        have o214a : ((xl2 B n q d)).1 = xkn B n ((xN B n q)) d := by rw [o214]
        have o214b : ((xl2 B n q d)).2.1 = ((xN B n q)) := by rw [o214]
        have o214c : ((xl2 B n q d)).2.2 = ((xN B n q)) := by rw [o214]
        exact wp_return e193 c193_41 rfl ⟨rfl, w156, f209, rfl, (Or.inr ⟨by omega, RO_eq a168 (by omega) (by omega)⟩)⟩
      · exfalso
        omega
  · refine wp_of e193 c193_11 (rw_aload_n (pc' := 12) (v := .ref r0) rfl rfl rfl ?_)
    refine wp_of e193 c193_12 (rw_iconst (pc' := 13) rfl ?_)
    refine wp_of e193 c193_13 (xc_V (pc' := 16) (r := r0) (as := [vI 3]) (st := []) (lm_9_121) rfl rfl (Nat.le_of_ble_eq_true rfl) hW g0 sh_42 (by decide) rfl (by decide) (u_181_k (B := B) (n := n) (q := q) hW g0 ⟨by omega, by omega⟩ (by omega) hRC_r0) (fun R215 T216 H217 p218 => ?_))
    obtain ⟨e219, w221, f222, e220, p223⟩ := p218
    subst e219
    subst e220
    have f225 := f0.tr f222 rfl
    show wp _ _ 193 16 [(0, .ref r0)] [] _ H217 _
    have u226 := RO_k p223
    refine wp_of e193 c193_16 (rw_aload_n (pc' := 17) (v := .ref r0) rfl rfl rfl ?_)
    refine wp_of e193 c193_17 (xc_V (pc' := 20) (r := r0) (as := []) (st := []) (lm_9_118) rfl rfl (Nat.le_of_ble_eq_true rfl) w221 g0 sh_42 (by decide) rfl (by decide) (u_172_o (fo := 3) (po := q) w221 g0 p223) (fun R227 T228 H229 p230 => ?_))
    obtain ⟨e231, e233, e232, p234⟩ := p230
    subst e231
    subst e232
    subst e233
    show wp _ _ 193 20 [(0, .ref r0)] [] _ H217 _
    have u236 := RO_k p234
    refine wp_of e193 c193_20 (rw_aload_n (pc' := 21) (v := .ref r0) rfl rfl rfl ?_)
    have k237 : H217 r0 4 = H r0 4 := (f222 r0 4 _ g0 rfl)
    have q238 : H217 r0 4 = (rp : Int) := k237.trans qrp
    have k239 : H217 r0 5 = H r0 5 := (f222 r0 5 _ g0 rfl)
    have q240 : H217 r0 5 = (rb : Int) := k239.trans qrb
    refine wp_of e193 c193_21 (xc_V (pc' := 24) (r := r0) (as := []) (st := []) (lm_9_273) rfl rfl (Nat.le_of_ble_eq_true rfl) w221 g0 sh_42 (by decide) rfl (by decide) (u_194_o (fo := 3) (po := q) w221 g0 q238 grp q240 grb p234) (fun R241 T242 H243 p244 => ?_))
    obtain ⟨e245, e247, z248, e246, b249, p250⟩ := p244
    subst e245
    subst e246
    subst e247
    obtain ⟨a251, a252⟩ := p250
    show wp _ _ 193 24 [(0, .ref r0)] [vI z248] _ H217 _
    have u253 := RO_k a252
    refine wp_of e193 c193_24 (rw_istore_n (pc' := 25) (z := z248) (L' := [(1, vI z248), (0, .ref r0)]) rfl rfl rfl ?_)
    refine wp_of e193 c193_25 (rw_aload_n (pc' := 26) (v := .ref r0) rfl rfl rfl ?_)
    refine wp_of e193 c193_26 (xg_I (pc' := 29) lf_9_75 w221 g0 sh_42 (by decide) (by decide) ty_42_9 rfl rfl (fun b254 b255 => ?_))
    refine wp_of e193 c193_29 (rw_iconst (pc' := 30) rfl ?_)
    refine wp_of e193 c193_30 (rw_icmp_eq (p1 := 41) (p2 := 33) (by decide) rfl ⟨by omega, by omega⟩ ⟨by omega, by omega⟩ (fun c256 => ?_) (fun c256 => ?_))
    · have o257 : (xl2 B n q d) = (3, q, q) := by
        unfold xl2 xsex
        repeat first | rw [xs_0 (by omega)] | rw [xs_1 (by omega)] | rw [if_pos (by omega)] | rw [if_neg (by omega)]
        first | done | rfl | assumption | (exfalso; omega) | (refine Prod.ext ?_ (Prod.ext ?_ ?_) <;> (try dsimp only) <;> omega)
      have o257a : ((xl2 B n q d)).1 = 3 := by rw [o257]
      have o257b : ((xl2 B n q d)).2.1 = q := by rw [o257]
      have o257c : ((xl2 B n q d)).2.2 = q := by rw [o257]
      exact wp_return e193 c193_41 rfl ⟨rfl, w221, f225, rfl, (Or.inr ⟨by omega, RO_eq a252 (by omega) (by omega)⟩)⟩
    · exfalso
      omega
/-! StrikeAwakeModel.readSexton()V o -/
abbrev uq_193_o (r0 : Nat) (rp : Nat) (rb : Nat) (fo : Int) (po : Int) (T : wq_T) (H : wq_H) : Option Value → wq_T → wq_H → Prop := fun r T' H' => T = T' ∧ H = H' ∧ none = r ∧ ((RO T H r0 fo po))
set_option maxHeartbeats 4000000 in
theorem u_193_o {kt : Nat → Option mc_E} {T : wq_T} {H : wq_H} {r0 : Nat} {rp : Nat} {rb : Nat} {fo : Int} {po : Int} (hW : WT T H) (g0 : T.2.2.2 r0 = some 42) (qrp : H r0 4 = (rp : Int)) (grp : T.2.2.2 rp = some 54) (qrb : H r0 5 = (rb : Int)) (grb : T.2.2.2 rb = some 43) (hRO_r0 : RO T H r0 fo po) : wpc kt 6 193 [.ref r0] T H (uq_193_o r0 rp rb fo po T H) := by
  refine wp_enter e193 (Nat.le_of_ble_eq_true rfl) rfl ?_
  show wp _ _ 193 0 [(0, .ref r0)] [] _ H _
  have u61 := RO_k hRO_r0
  refine wp_of e193 c193_0 (rw_aload_n (pc' := 1) (v := .ref r0) rfl rfl rfl ?_)
  refine wp_of e193 c193_1 (xg_K (pc' := 4) lf_9_166 hW g0 sh_42 (by decide) (by decide) rfl qrp rfl ?_)
  refine wp_of e193 c193_4 (xg_I (pc' := 7) lf_9_271 hW grp sh_54 (by decide) (by decide) ty_54_8 rfl rfl (fun b62 b63 => ?_))
  refine wp_of e193 c193_7 (rw_iconst (pc' := 8) rfl ?_)
  refine wp_of e193 c193_8 (rw_icmp_eq (p1 := 16) (p2 := 11) (by decide) rfl ⟨by omega, by omega⟩ ⟨by omega, by omega⟩ (fun c64 => ?_) (fun c64 => ?_))
  · refine wp_of e193 c193_16 (rw_aload_n (pc' := 17) (v := .ref r0) rfl rfl rfl ?_)
    refine wp_of e193 c193_17 (xc_V (pc' := 20) (r := r0) (as := []) (st := []) (lm_9_118) rfl rfl (Nat.le_of_ble_eq_true rfl) hW g0 sh_42 (by decide) rfl (by decide) (u_172_o (fo := fo) (po := po) hW g0 hRO_r0) (fun R65 T66 H67 p68 => ?_))
    obtain ⟨e69, e71, e70, p72⟩ := p68
    subst e69
    subst e70
    subst e71
    show wp _ _ 193 20 [(0, .ref r0)] [] _ H _
    have u74 := RO_k p72
    refine wp_of e193 c193_20 (rw_aload_n (pc' := 21) (v := .ref r0) rfl rfl rfl ?_)
    refine wp_of e193 c193_21 (xc_V (pc' := 24) (r := r0) (as := []) (st := []) (lm_9_273) rfl rfl (Nat.le_of_ble_eq_true rfl) hW g0 sh_42 (by decide) rfl (by decide) (u_194_o (fo := fo) (po := po) hW g0 qrp grp qrb grb p72) (fun R75 T76 H77 p78 => ?_))
    obtain ⟨e79, e81, z82, e80, b83, p84⟩ := p78
    subst e79
    subst e80
    subst e81
    obtain ⟨a85, a86⟩ := p84
    show wp _ _ 193 24 [(0, .ref r0)] [vI z82] _ H _
    have u87 := RO_k a86
    refine wp_of e193 c193_24 (rw_istore_n (pc' := 25) (z := z82) (L' := [(1, vI z82), (0, .ref r0)]) rfl rfl rfl ?_)
    refine wp_of e193 c193_25 (rw_aload_n (pc' := 26) (v := .ref r0) rfl rfl rfl ?_)
    refine wp_of e193 c193_26 (xg_I (pc' := 29) lf_9_75 hW g0 sh_42 (by decide) (by decide) ty_42_9 rfl rfl (fun b88 b89 => ?_))
    refine wp_of e193 c193_29 (rw_iconst (pc' := 30) rfl ?_)
    refine wp_of e193 c193_30 (rw_icmp_eq (p1 := 41) (p2 := 33) (by decide) rfl ⟨by omega, by omega⟩ ⟨by omega, by omega⟩ (fun c90 => ?_) (fun c90 => ?_))
    · exact wp_return e193 c193_41 rfl ⟨rfl, rfl, rfl, (a86)⟩
    · exfalso
      omega
  · refine wp_of e193 c193_11 (rw_aload_n (pc' := 12) (v := .ref r0) rfl rfl rfl ?_)
    refine wp_of e193 c193_12 (rw_iconst (pc' := 13) rfl ?_)
    refine wp_of e193 c193_13 (xc_V (pc' := 16) (r := r0) (as := [vI 3]) (st := []) (lm_9_121) rfl rfl (Nat.le_of_ble_eq_true rfl) hW g0 sh_42 (by decide) rfl (by decide) (u_181_o (fo := fo) (po := po) hW g0 ⟨by omega, by omega⟩ hRO_r0) (fun R91 T92 H93 p94 => ?_))
    obtain ⟨e95, e97, e96, p98⟩ := p94
    subst e95
    subst e96
    subst e97
    show wp _ _ 193 16 [(0, .ref r0)] [] _ H _
    have u100 := RO_k p98
    refine wp_of e193 c193_16 (rw_aload_n (pc' := 17) (v := .ref r0) rfl rfl rfl ?_)
    refine wp_of e193 c193_17 (xc_V (pc' := 20) (r := r0) (as := []) (st := []) (lm_9_118) rfl rfl (Nat.le_of_ble_eq_true rfl) hW g0 sh_42 (by decide) rfl (by decide) (u_172_o (fo := fo) (po := po) hW g0 p98) (fun R101 T102 H103 p104 => ?_))
    obtain ⟨e105, e107, e106, p108⟩ := p104
    subst e105
    subst e106
    subst e107
    show wp _ _ 193 20 [(0, .ref r0)] [] _ H _
    have u110 := RO_k p108
    refine wp_of e193 c193_20 (rw_aload_n (pc' := 21) (v := .ref r0) rfl rfl rfl ?_)
    refine wp_of e193 c193_21 (xc_V (pc' := 24) (r := r0) (as := []) (st := []) (lm_9_273) rfl rfl (Nat.le_of_ble_eq_true rfl) hW g0 sh_42 (by decide) rfl (by decide) (u_194_o (fo := fo) (po := po) hW g0 qrp grp qrb grb p108) (fun R111 T112 H113 p114 => ?_))
    obtain ⟨e115, e117, z118, e116, b119, p120⟩ := p114
    subst e115
    subst e116
    subst e117
    obtain ⟨a121, a122⟩ := p120
    show wp _ _ 193 24 [(0, .ref r0)] [vI z118] _ H _
    have u123 := RO_k a122
    refine wp_of e193 c193_24 (rw_istore_n (pc' := 25) (z := z118) (L' := [(1, vI z118), (0, .ref r0)]) rfl rfl rfl ?_)
    refine wp_of e193 c193_25 (rw_aload_n (pc' := 26) (v := .ref r0) rfl rfl rfl ?_)
    refine wp_of e193 c193_26 (xg_I (pc' := 29) lf_9_75 hW g0 sh_42 (by decide) (by decide) ty_42_9 rfl rfl (fun b124 b125 => ?_))
    refine wp_of e193 c193_29 (rw_iconst (pc' := 30) rfl ?_)
    refine wp_of e193 c193_30 (rw_icmp_eq (p1 := 41) (p2 := 33) (by decide) rfl ⟨by omega, by omega⟩ ⟨by omega, by omega⟩ (fun c126 => ?_) (fun c126 => ?_))
    · exact wp_return e193 c193_41 rfl ⟨rfl, rfl, rfl, (a122)⟩
    · exfalso
      omega
/-! StrikeAwakeModel.readBorn()V k -/
abbrev uq_198_k (r0 : Nat) (rp : Nat) (rb : Nat) (B : Nat → Int) (n : Int) (q : Int) (d : xD) (T : wq_T) (H : wq_H) : Option Value → wq_T → wq_H → Prop := fun r T' H' => T = T' ∧ WT T H' ∧ wfr [(54, 5), (42, 8), (42, 9), (42, 10), (42, 11), (42, 12), (42, 13), (42, 14), (42, 15), (66, 999)] T H H' ∧ none = r ∧ ((((xl4 B n q d).1 = 0) ∧ ((xl4 B n q d).2.2 = (xN B n (xN B n q))) ∧ (q ≤ (xN B n (xN B n q))) ∧ RC T H' r0 B n (xN B n (xN B n q)) ∧ DM T H' rp r0 (xdbo B n (xN B n q) d)) ∨ (((xl4 B n q d).1 ≠ 0) ∧ RO T H' r0 ((xl4 B n q d).1) ((xl4 B n q d).2.1)))
set_option maxHeartbeats 4000000 in
theorem u_198_k {kt : Nat → Option mc_E} {T : wq_T} {H : wq_H} {r0 : Nat} {rp : Nat} {rb : Nat} {B : Nat → Int} {n : Int} {q : Int} {d : xD} (hW : WT T H) (g0 : T.2.2.2 r0 = some 42) (qrp : H r0 4 = (rp : Int)) (grp : T.2.2.2 rp = some 54) (qrb : H r0 5 = (rb : Int)) (grb : T.2.2.2 rb = some 43) (p0 : xK B n q = 1) (hRC_r0 : RC T H r0 B n q) (hDM_rp : DM T H rp r0 d) : wpc kt 4 198 [.ref r0] T H (uq_198_k r0 rp rb B n q d T H) := by
  refine wp_enter e198 (Nat.le_of_ble_eq_true rfl) rfl ?_
  have f0 : wfr [(54, 5), (42, 8), (42, 9), (42, 10), (42, 11), (42, 12), (42, 13), (42, 14), (42, 15), (66, 999)] T H H := wfr.rf
  show wp _ _ 198 0 [(0, .ref r0)] [] _ H _
  have u102 := RC_k hRC_r0
  have u103 := DM_k hDM_rp
  have h104 : MA9 T H rp (d 1) := hDM_rp.2.2.2.1
  have h105 : MA10 T H rp (d 2) := hDM_rp.2.2.2.2.1
  have h106 : MA11 T H rp (d 3) := hDM_rp.2.2.2.2.2.1
  have h107 : MA12 T H rp (d 4) := hDM_rp.2.2.2.2.2.2.1
  have h108 : MA13 T H rp (d 5) := hDM_rp.2.2.2.2.2.2.2.1
  have h109 : MA14 T H rp (d 6) := hDM_rp.2.2.2.2.2.2.2.2.1
  have h110 : MA15 T H rp (d 7) := hDM_rp.2.2.2.2.2.2.2.2.2.1
  have h111 : MA16 T H rp (d 8) := hDM_rp.2.2.2.2.2.2.2.2.2.2.1
  have h112 : MA17 T H rp (d 9) := hDM_rp.2.2.2.2.2.2.2.2.2.2.2.1
  have h113 : MA18 T H rp (d 10) := hDM_rp.2.2.2.2.2.2.2.2.2.2.2.2.1
  have h114 : MA19 T H rp (d 11) := hDM_rp.2.2.2.2.2.2.2.2.2.2.2.2.2.1
  have h115 : MA20 T H rp (d 12) := hDM_rp.2.2.2.2.2.2.2.2.2.2.2.2.2.2.1
  have h116 : MA21 T H rp (d 13) := hDM_rp.2.2.2.2.2.2.2.2.2.2.2.2.2.2.2.1
  have h117 : MA22 T H rp (d 14) := hDM_rp.2.2.2.2.2.2.2.2.2.2.2.2.2.2.2.2.1
  have h118 : MA23 T H rp (d 15) := hDM_rp.2.2.2.2.2.2.2.2.2.2.2.2.2.2.2.2.2.1
  have h119 : MA25 T H rp (d 17) := hDM_rp.2.2.2.2.2.2.2.2.2.2.2.2.2.2.2.2.2.2.1
  have h120 : MA26 T H rp (d 16) := hDM_rp.2.2.2.2.2.2.2.2.2.2.2.2.2.2.2.2.2.2.2
  refine wp_of e198 c198_0 (rw_aload_n (pc' := 1) (v := .ref r0) rfl rfl rfl ?_)
  refine wp_of e198 c198_1 (rw_aload_n (pc' := 2) (v := .ref r0) rfl rfl rfl ?_)
  refine wp_of e198 c198_2 (xg_K (pc' := 5) lf_9_166 hW g0 sh_42 (by decide) (by decide) rfl qrp rfl ?_)
  refine wp_of e198 c198_5 (xg_I (pc' := 8) lf_9_288 hW grp sh_54 (by decide) (by decide) ty_54_5 rfl rfl (fun b121 b122 => ?_))
  refine wp_of e198 c198_8 (rw_iconst (pc' := 9) rfl ?_)
  refine wp_of e198 c198_9 (xc_V (pc' := 12) (r := r0) (as := [vI (H rp 5), vI 3]) (st := []) (lm_9_228) rfl rfl (Nat.le_of_ble_eq_true rfl) hW g0 sh_42 (by decide) rfl (by decide) (u_188_k (B := B) (n := n) (q := q) hW g0 ⟨by omega, by omega⟩ ⟨by omega, by omega⟩ qrb grb (by omega) hRC_r0) (fun R123 T124 H125 p126 => ?_))
  obtain ⟨e127, w129, f130, e128, p131⟩ := p126
  subst e127
  subst e128
  rcases p131 with ⟨a132, a133⟩ | ⟨a134, a135⟩
  · have f136 := f0.tr f130 rfl
    show wp _ _ 198 12 [(0, .ref r0)] [] _ H125 _
    have u137 := RC_k a133
    refine wp_of e198 c198_12 (rw_aload_n (pc' := 13) (v := .ref r0) rfl rfl rfl ?_)
    refine wp_of e198 c198_13 (rw_iconst (pc' := 14) rfl ?_)
    refine wp_of e198 c198_14 (rw_bipush (pc' := 16) (z := 23) rfl (by decide) ?_)
    have k138 : H125 r0 5 = H r0 5 := (f130 r0 5 _ g0 rfl)
    have q139 : H125 r0 5 = (rb : Int) := k138.trans qrb
    refine wp_of e198 c198_16 (xc_V (pc' := 19) (r := r0) (as := [vI 0, vI 23]) (st := []) (lm_9_137) rfl rfl (Nat.le_of_ble_eq_true rfl) w129 g0 sh_42 (by decide) rfl (by decide) (u_184_k (B := B) (n := n) (q := ((xN B n q))) (lo := 0) (hi := 23) w129 g0 ⟨by omega, by omega⟩ ⟨by omega, by omega⟩ q139 grb (by omega) (by omega) a133) (fun R140 T141 H142 p143 => ?_))
    obtain ⟨e144, w146, f147, z148, e145, b149, p150⟩ := p143
    subst e144
    subst e145
    rcases p150 with ⟨a151, a152, a153, a154⟩ | ⟨a155, a156, a157⟩
    · have f158 := f136.tr f147 rfl
      show wp _ _ 198 19 [(0, .ref r0)] [vI z148] _ H142 _
      have u159 := RC_k a154
      refine wp_of e198 c198_19 (rw_istore_n (pc' := 20) (z := z148) (L' := [(1, vI z148), (0, .ref r0)]) rfl rfl rfl ?_)
      refine wp_of e198 c198_20 (rw_aload_n (pc' := 21) (v := .ref r0) rfl rfl rfl ?_)
      refine wp_of e198 c198_21 (xg_I (pc' := 24) lf_9_75 w146 g0 sh_42 (by decide) (by decide) ty_42_9 rfl rfl (fun b160 b161 => ?_))
      refine wp_of e198 c198_24 (rw_iconst (pc' := 25) rfl ?_)
      refine wp_of e198 c198_25 (rw_icmp_ne (p1 := 29) (p2 := 28) (by decide) rfl ⟨by omega, by omega⟩ ⟨by omega, by omega⟩ (fun c162 => ?_) (fun c162 => ?_))
      · refine wp_of e198 c198_29 (rw_aload_n (pc' := 30) (v := .ref r0) rfl rfl rfl ?_)
        have k163 : H142 r0 4 = H r0 4 := ((f147 r0 4 _ g0 rfl).trans (f130 r0 4 _ g0 rfl))
        have q164 : H142 r0 4 = (rp : Int) := k163.trans qrp
        refine wp_of e198 c198_30 (xg_K (pc' := 33) lf_9_166 w146 g0 sh_42 (by decide) (by decide) rfl q164 rfl ?_)
        refine wp_of e198 c198_33 (xg_R (pc' := 36) lf_9_291 w146 grp sh_54 (by decide) (by decide) ty_54_20 rfl rfl (fun r165 q166 g167 => ?_))
        refine wp_of e198 c198_36 (rw_aload_n (pc' := 37) (v := .ref r0) rfl rfl rfl ?_)
        refine wp_of e198 c198_37 (xg_K (pc' := 40) lf_9_166 w146 g0 sh_42 (by decide) (by decide) rfl q164 rfl ?_)
        have k168 : H142 rp 5 = H rp 5 := ((f147 rp 5 _ grp rfl).trans (f130 rp 5 _ grp rfl))
        refine wp_of e198 c198_40 (xg_I (pc' := 43) lf_9_288 w146 grp sh_54 (by decide) (by decide) ty_54_5 rfl rfl (fun b169 b170 => ?_))
        refine wp_of e198 c198_43 (rw_iload_n (pc' := 44) (z := z148) rfl rfl ?_)
        have h171 : MA20 T H142 rp (d 12) := (MA20_fr w129 grp f147 rfl (MA20_fr hW grp f130 rfl h115))
        refine wp_of e198 c198_44 (xs_I (pc' := 45) w146 g167 (by decide) sh_66 (by decide) (ty_66 _) (by omega) (by omega) ⟨by omega, by omega⟩ (by omega) (by omega) rfl (fun H172 e173 w174 => ?_))
        have f175 := f158.put' e173 g167 rfl
        have h176 : MA20 T H172 rp (xdbo B n (xN B n q) d 12) := MA_put h171 q166 grp g167 (by decide) e173 ((xdbo_c (k := ((H142 rp 5).toNat)) (by omega)).1.trans (by omega)) (xdbo_c (k := ((H142 rp 5).toNat)) (by omega)).2
        refine wp_of e198 c198_45 (rw_aload_n (pc' := 46) (v := .ref r0) rfl rfl rfl ?_)
        have k177 : H172 r0 4 = H142 r0 4 := (wq_u_t e173 g167 g0 rfl 4)
        have q178 : H172 r0 4 = (rp : Int) := k177.trans q164
        refine wp_of e198 c198_46 (xg_K (pc' := 49) lf_9_166 w174 g0 sh_42 (by decide) (by decide) rfl q178 rfl ?_)
        refine wp_of e198 c198_49 (rw_dup (pc' := 50) rfl rfl ?_)
        have k179 : H172 rp 5 = H142 rp 5 := (wq_u_t e173 g167 grp rfl 5)
        refine wp_of e198 c198_50 (xg_I (pc' := 53) lf_9_288 w174 grp sh_54 (by decide) (by decide) ty_54_5 rfl rfl (fun b180 b181 => ?_))
        refine wp_of e198 c198_53 (rw_iconst (pc' := 54) rfl ?_)
        refine wp_of e198 c198_54 (rw_iadd (pc' := 55) rfl ?_)
        refine wp_of e198 c198_55 (xp_I (pc' := 58) lf_9_288 w174 grp sh_54 (by decide) (by decide) ty_54_5 rfl rfl (by omega) (by omega) ⟨by omega, by omega⟩ rfl (fun H182 e183 w184 => ?_))
        have f185 := f175.put' e183 grp rfl
        have k186 : H182 rp 5 = (H172 rp 5) + 1 := wq_u_s e183
        have k187 : H182 rp 0 = H rp 0 := ((wq_u_j e183 rfl).trans ((wq_u_t e173 g167 grp rfl 0).trans ((f147 rp 0 _ grp rfl).trans (f130 rp 0 _ grp rfl))))
        have k188 : H182 rp 1 = H rp 1 := ((wq_u_j e183 rfl).trans ((wq_u_t e173 g167 grp rfl 1).trans ((f147 rp 1 _ grp rfl).trans (f130 rp 1 _ grp rfl))))
        have k189 : H182 rp 2 = H rp 2 := ((wq_u_j e183 rfl).trans ((wq_u_t e173 g167 grp rfl 2).trans ((f147 rp 2 _ grp rfl).trans (f130 rp 2 _ grp rfl))))
        have k190 : H182 rp 3 = H rp 3 := ((wq_u_j e183 rfl).trans ((wq_u_t e173 g167 grp rfl 3).trans ((f147 rp 3 _ grp rfl).trans (f130 rp 3 _ grp rfl))))
        have k191 : H182 rp 4 = H rp 4 := ((wq_u_j e183 rfl).trans ((wq_u_t e173 g167 grp rfl 4).trans ((f147 rp 4 _ grp rfl).trans (f130 rp 4 _ grp rfl))))
        have k192 : H182 rp 6 = H rp 6 := ((wq_u_j e183 rfl).trans ((wq_u_t e173 g167 grp rfl 6).trans ((f147 rp 6 _ grp rfl).trans (f130 rp 6 _ grp rfl))))
        have k193 : H182 rp 7 = H rp 7 := ((wq_u_j e183 rfl).trans ((wq_u_t e173 g167 grp rfl 7).trans ((f147 rp 7 _ grp rfl).trans (f130 rp 7 _ grp rfl))))
        have k194 : H182 rp 8 = H rp 8 := ((wq_u_j e183 rfl).trans ((wq_u_t e173 g167 grp rfl 8).trans ((f147 rp 8 _ grp rfl).trans (f130 rp 8 _ grp rfl))))
        have k195 : H182 r0 16 = H r0 16 := ((wq_u_t e183 grp g0 rfl 16).trans ((wq_u_t e173 g167 g0 rfl 16).trans ((f147 r0 16 _ g0 rfl).trans (f130 r0 16 _ g0 rfl))))
        have o196 : (xl4 B n q d) = (0, (xN B n q), (xN B n ((xN B n q)))) := by
          unfold xl4 xbo
          repeat first | rw [xs_0 (by omega)] | rw [xs_1 (by omega)] | rw [if_pos (by omega)] | rw [if_neg (by omega)]
          first | done | rfl | assumption | (exfalso; omega) | (refine Prod.ext ?_ (Prod.ext ?_ ?_) <;> (try dsimp only) <;> omega)
        have o196a : ((xl4 B n q d)).1 = 0 := by rw [o196]
        have o196b : ((xl4 B n q d)).2.1 = (xN B n q) := by rw [o196]
        have o196c : ((xl4 B n q d)).2.2 = (xN B n ((xN B n q))) := by rw [o196]
        have _l := @xdbo_v B n (xN B n q) d
        have h197 : RC T H182 r0 B n (xN B n ((xN B n q))) := (RC_fr w174 g0 ((wfr.rf (l := [(54, 5)])).put' e183 grp rfl) rfl (RC_fr w146 g0 ((wfr.rf (l := [(66, 999)])).put' e173 g167 rfl) rfl a154))
        have h198 : MA9 T H182 rp (d 1) := (MA9_fr w174 grp ((wfr.rf (l := [(54, 5)])).put' e183 grp rfl) rfl (MA9_fr w146 grp ((wfr.rf (l := [(66, 999)])).put' e173 g167 rfl) rfl (MA9_fr w129 grp f147 rfl (MA9_fr hW grp f130 rfl h104))))
        have h199 : MA10 T H182 rp (d 2) := (MA10_fr w174 grp ((wfr.rf (l := [(54, 5)])).put' e183 grp rfl) rfl (MA10_fr w146 grp ((wfr.rf (l := [(66, 999)])).put' e173 g167 rfl) rfl (MA10_fr w129 grp f147 rfl (MA10_fr hW grp f130 rfl h105))))
        have h200 : MA11 T H182 rp (d 3) := (MA11_fr w174 grp ((wfr.rf (l := [(54, 5)])).put' e183 grp rfl) rfl (MA11_fr w146 grp ((wfr.rf (l := [(66, 999)])).put' e173 g167 rfl) rfl (MA11_fr w129 grp f147 rfl (MA11_fr hW grp f130 rfl h106))))
        have h201 : MA12 T H182 rp (d 4) := (MA12_fr w174 grp ((wfr.rf (l := [(54, 5)])).put' e183 grp rfl) rfl (MA12_fr w146 grp ((wfr.rf (l := [(66, 999)])).put' e173 g167 rfl) rfl (MA12_fr w129 grp f147 rfl (MA12_fr hW grp f130 rfl h107))))
        have h202 : MA13 T H182 rp (d 5) := (MA13_fr w174 grp ((wfr.rf (l := [(54, 5)])).put' e183 grp rfl) rfl (MA13_fr w146 grp ((wfr.rf (l := [(66, 999)])).put' e173 g167 rfl) rfl (MA13_fr w129 grp f147 rfl (MA13_fr hW grp f130 rfl h108))))
        have h203 : MA14 T H182 rp (d 6) := (MA14_fr w174 grp ((wfr.rf (l := [(54, 5)])).put' e183 grp rfl) rfl (MA14_fr w146 grp ((wfr.rf (l := [(66, 999)])).put' e173 g167 rfl) rfl (MA14_fr w129 grp f147 rfl (MA14_fr hW grp f130 rfl h109))))
        have h204 : MA15 T H182 rp (d 7) := (MA15_fr w174 grp ((wfr.rf (l := [(54, 5)])).put' e183 grp rfl) rfl (MA15_fr w146 grp ((wfr.rf (l := [(66, 999)])).put' e173 g167 rfl) rfl (MA15_fr w129 grp f147 rfl (MA15_fr hW grp f130 rfl h110))))
        have h205 : MA16 T H182 rp (d 8) := (MA16_fr w174 grp ((wfr.rf (l := [(54, 5)])).put' e183 grp rfl) rfl (MA16_fr w146 grp ((wfr.rf (l := [(66, 999)])).put' e173 g167 rfl) rfl (MA16_fr w129 grp f147 rfl (MA16_fr hW grp f130 rfl h111))))
        have h206 : MA17 T H182 rp (d 9) := (MA17_fr w174 grp ((wfr.rf (l := [(54, 5)])).put' e183 grp rfl) rfl (MA17_fr w146 grp ((wfr.rf (l := [(66, 999)])).put' e173 g167 rfl) rfl (MA17_fr w129 grp f147 rfl (MA17_fr hW grp f130 rfl h112))))
        have h207 : MA18 T H182 rp (d 10) := (MA18_fr w174 grp ((wfr.rf (l := [(54, 5)])).put' e183 grp rfl) rfl (MA18_fr w146 grp ((wfr.rf (l := [(66, 999)])).put' e173 g167 rfl) rfl (MA18_fr w129 grp f147 rfl (MA18_fr hW grp f130 rfl h113))))
        have h208 : MA19 T H182 rp (d 11) := (MA19_fr w174 grp ((wfr.rf (l := [(54, 5)])).put' e183 grp rfl) rfl (MA19_fr w146 grp ((wfr.rf (l := [(66, 999)])).put' e173 g167 rfl) rfl (MA19_fr w129 grp f147 rfl (MA19_fr hW grp f130 rfl h114))))
        have h209 : MA20 T H182 rp (xdbo B n (xN B n q) d 12) := (MA20_fr w174 grp ((wfr.rf (l := [(54, 5)])).put' e183 grp rfl) rfl h176)
        have h210 : MA21 T H182 rp (d 13) := (MA21_fr w174 grp ((wfr.rf (l := [(54, 5)])).put' e183 grp rfl) rfl (MA21_fr w146 grp ((wfr.rf (l := [(66, 999)])).put' e173 g167 rfl) rfl (MA21_fr w129 grp f147 rfl (MA21_fr hW grp f130 rfl h116))))
        have h211 : MA22 T H182 rp (d 14) := (MA22_fr w174 grp ((wfr.rf (l := [(54, 5)])).put' e183 grp rfl) rfl (MA22_fr w146 grp ((wfr.rf (l := [(66, 999)])).put' e173 g167 rfl) rfl (MA22_fr w129 grp f147 rfl (MA22_fr hW grp f130 rfl h117))))
        have h212 : MA23 T H182 rp (d 15) := (MA23_fr w174 grp ((wfr.rf (l := [(54, 5)])).put' e183 grp rfl) rfl (MA23_fr w146 grp ((wfr.rf (l := [(66, 999)])).put' e173 g167 rfl) rfl (MA23_fr w129 grp f147 rfl (MA23_fr hW grp f130 rfl h118))))
        have h213 : MA25 T H182 rp (d 17) := (MA25_fr w174 grp ((wfr.rf (l := [(54, 5)])).put' e183 grp rfl) rfl (MA25_fr w146 grp ((wfr.rf (l := [(66, 999)])).put' e173 g167 rfl) rfl (MA25_fr w129 grp f147 rfl (MA25_fr hW grp f130 rfl h119))))
        have h214 : MA26 T H182 rp (d 16) := (MA26_fr w174 grp ((wfr.rf (l := [(54, 5)])).put' e183 grp rfl) rfl (MA26_fr w146 grp ((wfr.rf (l := [(66, 999)])).put' e173 g167 rfl) rfl (MA26_fr w129 grp f147 rfl (MA26_fr hW grp f130 rfl h120))))
        exact wp_return e198 c198_58 rfl ⟨rfl, w184, f185, rfl, (Or.inl ⟨by omega, by omega, by omega, h197, DM_mk hDM_rp.1 ⟨by omega, by omega, by omega, by omega, by omega, by omega, by omega, by omega, by omega, by omega, by omega, by omega⟩ (xdP_cg hDM_rp.2.2.1 (fun i h1 h2 => by unfold xdbo; rw [wq_u_row (by omega), wq_u_row (by omega)])) h198 h199 h200 h201 h202 h203 h204 h205 h206 h207 h208 h209 h210 h211 h212 h213 h214 ⟨(by unfold xdbo; rw [wq_u_row (by decide), wq_u_row (by decide)]), (by unfold xdbo; rw [wq_u_row (by decide), wq_u_row (by decide)]), (by unfold xdbo; rw [wq_u_row (by decide), wq_u_row (by decide)]), (by unfold xdbo; rw [wq_u_row (by decide), wq_u_row (by decide)]), (by unfold xdbo; rw [wq_u_row (by decide), wq_u_row (by decide)]), (by unfold xdbo; rw [wq_u_row (by decide), wq_u_row (by decide)]), (by unfold xdbo; rw [wq_u_row (by decide), wq_u_row (by decide)]), (by unfold xdbo; rw [wq_u_row (by decide), wq_u_row (by decide)]), (by unfold xdbo; rw [wq_u_row (by decide), wq_u_row (by decide)]), (by unfold xdbo; rw [wq_u_row (by decide), wq_u_row (by decide)]), (by unfold xdbo; rw [wq_u_row (by decide), wq_u_row (by decide)]), rfl, (by unfold xdbo; rw [wq_u_row (by decide), wq_u_row (by decide)]), (by unfold xdbo; rw [wq_u_row (by decide), wq_u_row (by decide)]), (by unfold xdbo; rw [wq_u_row (by decide), wq_u_row (by decide)]), (by unfold xdbo; rw [wq_u_row (by decide), wq_u_row (by decide)]), (by unfold xdbo; rw [wq_u_row (by decide), wq_u_row (by decide)])⟩⟩)⟩
      · exfalso
        omega
    · have f215 := f136.tr f147 rfl
      show wp _ _ 198 19 [(0, .ref r0)] [vI z148] _ H142 _
      have u216 := RO_k a157
      refine wp_of e198 c198_19 (rw_istore_n (pc' := 20) (z := z148) (L' := [(1, vI z148), (0, .ref r0)]) rfl rfl rfl ?_)
      refine wp_of e198 c198_20 (rw_aload_n (pc' := 21) (v := .ref r0) rfl rfl rfl ?_)
      refine wp_of e198 c198_21 (xg_I (pc' := 24) lf_9_75 w146 g0 sh_42 (by decide) (by decide) ty_42_9 rfl rfl (fun b217 b218 => ?_))
      refine wp_of e198 c198_24 (rw_iconst (pc' := 25) rfl ?_)
      refine wp_of e198 c198_25 (rw_icmp_ne (p1 := 29) (p2 := 28) (by decide) rfl ⟨by omega, by omega⟩ ⟨by omega, by omega⟩ (fun c219 => ?_) (fun c219 => ?_))
      · exfalso
        omega
      · have o220 : (xl4 B n q d) = (xh B n ((xN B n q)) 0 23, ((xN B n q)), ((xN B n q))) := by
          unfold xl4 xbo
          repeat first | rw [xs_0 (by omega)] | rw [xs_1 (by omega)] | rw [if_pos (by omega)] | rw [if_neg (by omega)]
          first | done | rfl | assumption | (exfalso; omega) | (refine Prod.ext ?_ (Prod.ext ?_ ?_) <;> (try dsimp only) <;> omega)
        have o220a : ((xl4 B n q d)).1 = xh B n ((xN B n q)) 0 23 := by rw [o220]
        have o220b : ((xl4 B n q d)).2.1 = ((xN B n q)) := by rw [o220]
        have o220c : ((xl4 B n q d)).2.2 = ((xN B n q)) := by rw [o220]
        exact wp_return e198 c198_28 rfl ⟨rfl, w146, f215, rfl, (Or.inr ⟨by omega, RO_eq a157 (by omega) (by omega)⟩)⟩
  · have f221 := f0.tr f130 rfl
    show wp _ _ 198 12 [(0, .ref r0)] [] _ H125 _
    have u222 := RO_k a135
    refine wp_of e198 c198_12 (rw_aload_n (pc' := 13) (v := .ref r0) rfl rfl rfl ?_)
    refine wp_of e198 c198_13 (rw_iconst (pc' := 14) rfl ?_)
    refine wp_of e198 c198_14 (rw_bipush (pc' := 16) (z := 23) rfl (by decide) ?_)
    have k223 : H125 r0 5 = H r0 5 := (f130 r0 5 _ g0 rfl)
    have q224 : H125 r0 5 = (rb : Int) := k223.trans qrb
    refine wp_of e198 c198_16 (xc_V (pc' := 19) (r := r0) (as := [vI 0, vI 23]) (st := []) (lm_9_137) rfl rfl (Nat.le_of_ble_eq_true rfl) w129 g0 sh_42 (by decide) rfl (by decide) (u_184_o (fo := 5) (po := q) w129 g0 ⟨by omega, by omega⟩ ⟨by omega, by omega⟩ q224 grb a135) (fun R225 T226 H227 p228 => ?_))
    obtain ⟨e229, e231, z232, e230, b233, p234⟩ := p228
    subst e229
    subst e230
    subst e231
    obtain ⟨a235, a236⟩ := p234
    show wp _ _ 198 19 [(0, .ref r0)] [vI z232] _ H125 _
    have u237 := RO_k a236
    refine wp_of e198 c198_19 (rw_istore_n (pc' := 20) (z := z232) (L' := [(1, vI z232), (0, .ref r0)]) rfl rfl rfl ?_)
    refine wp_of e198 c198_20 (rw_aload_n (pc' := 21) (v := .ref r0) rfl rfl rfl ?_)
    refine wp_of e198 c198_21 (xg_I (pc' := 24) lf_9_75 w129 g0 sh_42 (by decide) (by decide) ty_42_9 rfl rfl (fun b238 b239 => ?_))
    refine wp_of e198 c198_24 (rw_iconst (pc' := 25) rfl ?_)
    refine wp_of e198 c198_25 (rw_icmp_ne (p1 := 29) (p2 := 28) (by decide) rfl ⟨by omega, by omega⟩ ⟨by omega, by omega⟩ (fun c240 => ?_) (fun c240 => ?_))
    · exfalso
      omega
    · have o241 : (xl4 B n q d) = (5, q, q) := by
        unfold xl4 xbo
        repeat first | rw [xs_0 (by omega)] | rw [xs_1 (by omega)] | rw [if_pos (by omega)] | rw [if_neg (by omega)]
        first | done | rfl | assumption | (exfalso; omega) | (refine Prod.ext ?_ (Prod.ext ?_ ?_) <;> (try dsimp only) <;> omega)
      have o241a : ((xl4 B n q d)).1 = 5 := by rw [o241]
      have o241b : ((xl4 B n q d)).2.1 = q := by rw [o241]
      have o241c : ((xl4 B n q d)).2.2 = q := by rw [o241]
      exact wp_return e198 c198_28 rfl ⟨rfl, w129, f221, rfl, (Or.inr ⟨by omega, RO_eq a236 (by omega) (by omega)⟩)⟩
/-! StrikeAwakeModel.readBorn()V o -/
abbrev uq_198_o (r0 : Nat) (rp : Nat) (rb : Nat) (fo : Int) (po : Int) (T : wq_T) (H : wq_H) : Option Value → wq_T → wq_H → Prop := fun r T' H' => T = T' ∧ H = H' ∧ none = r ∧ ((RO T H r0 fo po))
set_option maxHeartbeats 4000000 in
theorem u_198_o {kt : Nat → Option mc_E} {T : wq_T} {H : wq_H} {r0 : Nat} {rp : Nat} {rb : Nat} {fo : Int} {po : Int} (hW : WT T H) (g0 : T.2.2.2 r0 = some 42) (qrp : H r0 4 = (rp : Int)) (grp : T.2.2.2 rp = some 54) (qrb : H r0 5 = (rb : Int)) (grb : T.2.2.2 rb = some 43) (hRO_r0 : RO T H r0 fo po) : wpc kt 4 198 [.ref r0] T H (uq_198_o r0 rp rb fo po T H) := by
  refine wp_enter e198 (Nat.le_of_ble_eq_true rfl) rfl ?_
  show wp _ _ 198 0 [(0, .ref r0)] [] _ H _
  have u27 := RO_k hRO_r0
  refine wp_of e198 c198_0 (rw_aload_n (pc' := 1) (v := .ref r0) rfl rfl rfl ?_)
  refine wp_of e198 c198_1 (rw_aload_n (pc' := 2) (v := .ref r0) rfl rfl rfl ?_)
  refine wp_of e198 c198_2 (xg_K (pc' := 5) lf_9_166 hW g0 sh_42 (by decide) (by decide) rfl qrp rfl ?_)
  refine wp_of e198 c198_5 (xg_I (pc' := 8) lf_9_288 hW grp sh_54 (by decide) (by decide) ty_54_5 rfl rfl (fun b28 b29 => ?_))
  refine wp_of e198 c198_8 (rw_iconst (pc' := 9) rfl ?_)
  refine wp_of e198 c198_9 (xc_V (pc' := 12) (r := r0) (as := [vI (H rp 5), vI 3]) (st := []) (lm_9_228) rfl rfl (Nat.le_of_ble_eq_true rfl) hW g0 sh_42 (by decide) rfl (by decide) (u_188_o (fo := fo) (po := po) hW g0 ⟨by omega, by omega⟩ ⟨by omega, by omega⟩ qrb grb hRO_r0) (fun R30 T31 H32 p33 => ?_))
  obtain ⟨e34, e36, e35, p37⟩ := p33
  subst e34
  subst e35
  subst e36
  show wp _ _ 198 12 [(0, .ref r0)] [] _ H _
  have u39 := RO_k p37
  refine wp_of e198 c198_12 (rw_aload_n (pc' := 13) (v := .ref r0) rfl rfl rfl ?_)
  refine wp_of e198 c198_13 (rw_iconst (pc' := 14) rfl ?_)
  refine wp_of e198 c198_14 (rw_bipush (pc' := 16) (z := 23) rfl (by decide) ?_)
  refine wp_of e198 c198_16 (xc_V (pc' := 19) (r := r0) (as := [vI 0, vI 23]) (st := []) (lm_9_137) rfl rfl (Nat.le_of_ble_eq_true rfl) hW g0 sh_42 (by decide) rfl (by decide) (u_184_o (fo := fo) (po := po) hW g0 ⟨by omega, by omega⟩ ⟨by omega, by omega⟩ qrb grb p37) (fun R40 T41 H42 p43 => ?_))
  obtain ⟨e44, e46, z47, e45, b48, p49⟩ := p43
  subst e44
  subst e45
  subst e46
  obtain ⟨a50, a51⟩ := p49
  show wp _ _ 198 19 [(0, .ref r0)] [vI z47] _ H _
  have u52 := RO_k a51
  refine wp_of e198 c198_19 (rw_istore_n (pc' := 20) (z := z47) (L' := [(1, vI z47), (0, .ref r0)]) rfl rfl rfl ?_)
  refine wp_of e198 c198_20 (rw_aload_n (pc' := 21) (v := .ref r0) rfl rfl rfl ?_)
  refine wp_of e198 c198_21 (xg_I (pc' := 24) lf_9_75 hW g0 sh_42 (by decide) (by decide) ty_42_9 rfl rfl (fun b53 b54 => ?_))
  refine wp_of e198 c198_24 (rw_iconst (pc' := 25) rfl ?_)
  refine wp_of e198 c198_25 (rw_icmp_ne (p1 := 29) (p2 := 28) (by decide) rfl ⟨by omega, by omega⟩ ⟨by omega, by omega⟩ (fun c55 => ?_) (fun c55 => ?_))
  · exfalso
    omega
  · exact wp_return e198 c198_28 rfl ⟨rfl, rfl, rfl, (a51)⟩
/-! StrikeAwakeModel.readHours()I k -/
abbrev uq_201_k (r0 : Nat) (rp : Nat) (rb : Nat) (B : Nat → Int) (n : Int) (q : Int) (d : xD) (T : wq_T) (H : wq_H) : Option Value → wq_T → wq_H → Prop := fun r T' H' => T = T' ∧ WT T H' ∧ wfr [(42, 8), (42, 9), (42, 10), (42, 11), (42, 12), (42, 13), (42, 14), (42, 15), (42, 17), (42, 18)] T H H' ∧ ∃ z : Int, some (vI z) = r ∧ (0 ≤ z ∧ z ≤ 5) ∧ (((0 ≤ z ∧ z ≤ 5) ∧ ((xtl B n q d).1 = 0) ∧ (xtl B n q d = (0, q, (xN B n (xN B n (xN B n (xN B n q)))))) ∧ (z = xwho B n q d) ∧ (z < d 0 3) ∧ (H' r0 17 = xV B n (xN B n q)) ∧ (H' r0 18 = xV B n (xN B n (xN B n (xN B n q)))) ∧ (0 ≤ xV B n (xN B n q) ∧ xV B n (xN B n q) ≤ 23) ∧ (xV B n (xN B n q) + 1 ≤ xV B n (xN B n (xN B n (xN B n q))) ∧ xV B n (xN B n (xN B n (xN B n q))) ≤ 24) ∧ (q ≤ (xN B n (xN B n (xN B n (xN B n q))))) ∧ RC T H' r0 B n (xN B n (xN B n (xN B n (xN B n q))))) ∨ ((0 ≤ z ∧ z ≤ 5) ∧ ((xtl B n q d).1 ≠ 0) ∧ RO T H' r0 ((xtl B n q d).1) ((xtl B n q d).2.1)))
set_option maxHeartbeats 4000000 in
theorem u_201_k {kt : Nat → Option mc_E} {T : wq_T} {H : wq_H} {r0 : Nat} {rp : Nat} {rb : Nat} {B : Nat → Int} {n : Int} {q : Int} {d : xD} (hW : WT T H) (g0 : T.2.2.2 r0 = some 42) (qrp : H r0 4 = (rp : Int)) (grp : T.2.2.2 rp = some 54) (qrb : H r0 5 = (rb : Int)) (grb : T.2.2.2 rb = some 43) (hRC_r0 : RC T H r0 B n q) (hDM_rp : DM T H rp r0 d) : wpc kt 6 201 [.ref r0] T H (uq_201_k r0 rp rb B n q d T H) := by
  refine wp_enter e201 (Nat.le_of_ble_eq_true rfl) rfl ?_
  have f0 : wfr [(42, 8), (42, 9), (42, 10), (42, 11), (42, 12), (42, 13), (42, 14), (42, 15), (42, 17), (42, 18)] T H H := wfr.rf
  show wp _ _ 201 0 [(0, .ref r0)] [] _ H _
  have u161 := RC_k hRC_r0
  have u162 := DM_k hDM_rp
  refine wp_of e201 c201_0 (rw_aload_n (pc' := 1) (v := .ref r0) rfl rfl rfl ?_)
  refine wp_of e201 c201_1 (xc_V (pc' := 4) (r := r0) (as := []) (st := []) (lm_9_273) rfl rfl (Nat.le_of_ble_eq_true rfl) hW g0 sh_42 (by decide) rfl (by decide) (u_194_k (B := B) (n := n) (q := q) (d := d) hW g0 qrp grp qrb grb hRC_r0 hDM_rp) (fun R163 T164 H165 p166 => ?_))
  obtain ⟨e167, w169, f170, z171, e168, b172, p173⟩ := p166
  subst e167
  subst e168
  rcases p173 with ⟨a174, a175, a176, a177, a178⟩ | ⟨a179, a180, a181⟩
  · have f182 := f0.tr f170 rfl
    show wp _ _ 201 4 [(0, .ref r0)] [vI z171] _ H165 _
    have u183 := RC_k a178
    refine wp_of e201 c201_4 (rw_istore_n (pc' := 5) (z := z171) (L' := [(1, vI z171), (0, .ref r0)]) rfl rfl rfl ?_)
    refine wp_of e201 c201_5 (rw_aload_n (pc' := 6) (v := .ref r0) rfl rfl rfl ?_)
    refine wp_of e201 c201_6 (rw_aload_n (pc' := 7) (v := .ref r0) rfl rfl rfl ?_)
    refine wp_of e201 c201_7 (rw_iconst (pc' := 8) rfl ?_)
    refine wp_of e201 c201_8 (rw_bipush (pc' := 10) (z := 23) rfl (by decide) ?_)
    have k184 : H165 r0 5 = H r0 5 := (f170 r0 5 _ g0 rfl)
    have q185 : H165 r0 5 = (rb : Int) := k184.trans qrb
    refine wp_of e201 c201_10 (xc_V (pc' := 13) (r := r0) (as := [vI 0, vI 23]) (st := [.ref r0]) (lm_9_137) rfl rfl (Nat.le_of_ble_eq_true rfl) w169 g0 sh_42 (by decide) rfl (by decide) (u_184_k (B := B) (n := n) (q := ((xN B n q))) (lo := 0) (hi := 23) w169 g0 ⟨by omega, by omega⟩ ⟨by omega, by omega⟩ q185 grb (by omega) (by omega) a178) (fun R186 T187 H188 p189 => ?_))
    obtain ⟨e190, w192, f193, z194, e191, b195, p196⟩ := p189
    subst e190
    subst e191
    rcases p196 with ⟨a197, a198, a199, a200⟩ | ⟨a201, a202, a203⟩
    · have f204 := f182.tr f193 rfl
      show wp _ _ 201 13 [(1, vI z171), (0, .ref r0)] [vI z194, .ref r0] _ H188 _
      have u205 := RC_k a200
      refine wp_of e201 c201_13 (xp_I (pc' := 16) lf_9_300 w192 g0 sh_42 (by decide) (by decide) ty_42_17 rfl rfl (by omega) (by omega) ⟨by omega, by omega⟩ rfl (fun H206 e207 w208 => ?_))
      have f209 := f204.put' e207 g0 rfl
      have k210 : H206 r0 17 = z194 := wq_u_s e207
      refine wp_of e201 c201_16 (rw_aload_n (pc' := 17) (v := .ref r0) rfl rfl rfl ?_)
      refine wp_of e201 c201_17 (rw_aload_n (pc' := 18) (v := .ref r0) rfl rfl rfl ?_)
      refine wp_of e201 c201_18 (rw_ldcS (pc' := 20) (k := 87) rfl rfl rfl rfl ?_)
      refine wp_of e201 c201_20 (rw_aload_n (pc' := 21) (v := .ref r0) rfl rfl rfl ?_)
      refine wp_of e201 c201_21 (xg_I (pc' := 24) lf_9_300 w208 g0 sh_42 (by decide) (by decide) ty_42_17 rfl rfl (fun b211 b212 => ?_))
      refine wp_of e201 c201_24 (rw_iconst (pc' := 25) rfl ?_)
      refine wp_of e201 c201_25 (rw_iadd (pc' := 26) rfl ?_)
      refine wp_of e201 c201_26 (rw_bipush (pc' := 28) (z := 24) rfl (by decide) ?_)
      have k213 : H206 r0 5 = H165 r0 5 := ((wq_u_j e207 rfl).trans (f193 r0 5 _ g0 rfl))
      have q214 : H206 r0 5 = (rb : Int) := k213.trans q185
      have h215 : RC T H206 r0 B n (xN B n ((xN B n q))) := (RC_fr w192 g0 ((wfr.rf (l := [(42, 17)])).put' e207 g0 rfl) rfl a200)
      refine wp_of e201 c201_28 (xc_V (pc' := 31) (r := r0) (as := [.ref 87, vI ((H206 r0 17) + 1), vI 24]) (st := [.ref r0]) (lm_9_216) rfl rfl (Nat.le_of_ble_eq_true rfl) w208 g0 sh_42 (by decide) rfl (by decide) (u_182_k (B := B) (n := n) (q := ((xN B n ((xN B n q))))) (kk := 655) (lo := (xV B n (xN B n q) + 1)) (hi := (min (xV B n (xN B n q) + 24) 24)) w208 g0 rfl ⟨by omega, by omega⟩ ⟨by omega, by omega⟩ q214 grb (by decide +kernel) (by omega) (by omega) h215) (fun R216 T217 H218 p219 => ?_))
      obtain ⟨e220, w222, f223, z224, e221, b225, p226⟩ := p219
      subst e220
      subst e221
      rcases p226 with ⟨a227, a228, a229, a230, a231, a232⟩ | ⟨a233, a234, a235⟩ | ⟨a236, a237, a238, a239⟩
      · have f240 := f209.tr f223 rfl
        show wp _ _ 201 31 [(1, vI z171), (0, .ref r0)] [vI z224, .ref r0] _ H218 _
        have u241 := RC_k a232
        refine wp_of e201 c201_31 (xp_I (pc' := 34) lf_9_303 w222 g0 sh_42 (by decide) (by decide) ty_42_18 rfl rfl (by omega) (by omega) ⟨by omega, by omega⟩ rfl (fun H242 e243 w244 => ?_))
        have f245 := f240.put' e243 g0 rfl
        have k246 : H242 r0 18 = z224 := wq_u_s e243
        refine wp_of e201 c201_34 (rw_iload_n (pc' := 35) (z := z171) rfl rfl ?_)
        have k247 : H242 r0 17 = H206 r0 17 := ((wq_u_j e243 rfl).trans (f223 r0 17 _ g0 rfl))
        have o248 : (xtl B n q d) = (0, q, (xN B n (xN B n ((xN B n ((xN B n q))))))) := by
          unfold xtl xrg
          try simp only [xs_xs, xs_z]
          repeat first | rw [xs_0 (by omega)] | rw [xs_1 (by omega)] | rw [if_pos (by omega)] | rw [if_neg (by omega)]
          first | done | rfl | assumption | (exfalso; omega) | (refine Prod.ext ?_ (Prod.ext ?_ ?_) <;> (try dsimp only) <;> omega)
        have o248a : ((xtl B n q d)).1 = 0 := by rw [o248]
        have o248b : ((xtl B n q d)).2.1 = q := by rw [o248]
        have o248c : ((xtl B n q d)).2.2 = (xN B n (xN B n ((xN B n ((xN B n q)))))) := by rw [o248]
        have h249 : RC T H242 r0 B n (xN B n (xN B n ((xN B n ((xN B n q)))))) := (RC_fr w222 g0 ((wfr.rf (l := [(42, 18)])).put' e243 g0 rfl) rfl a232)
        exact wp_ireturn e201 c201_35 rfl ⟨rfl, w244, f245, z171, rfl, ⟨by omega, by omega⟩, (Or.inl ⟨by omega, by omega, o248, by omega, by omega, by omega, by omega, by omega, by omega, by omega, h249⟩)⟩
      · have f250 := f209.tr f223 rfl
        show wp _ _ 201 31 [(1, vI z171), (0, .ref r0)] [vI z224, .ref r0] _ H218 _
        have u251 := RO_k a235
        refine wp_of e201 c201_31 (xp_I (pc' := 34) lf_9_303 w222 g0 sh_42 (by decide) (by decide) ty_42_18 rfl rfl (by omega) (by omega) ⟨by omega, by omega⟩ rfl (fun H252 e253 w254 => ?_))
        have f255 := f250.put' e253 g0 rfl
        have k256 : H252 r0 18 = z224 := wq_u_s e253
        refine wp_of e201 c201_34 (rw_iload_n (pc' := 35) (z := z171) rfl rfl ?_)
        have o257 : (xtl B n q d) = (xw B n ((xN B n ((xN B n q)))) 655, ((xN B n ((xN B n q)))), ((xN B n ((xN B n q))))) := by
          unfold xtl xrg
          try simp only [xs_xs, xs_z]
          repeat first | rw [xs_0 (by omega)] | rw [xs_1 (by omega)] | rw [if_pos (by omega)] | rw [if_neg (by omega)]
          first | done | rfl | assumption | (exfalso; omega) | (refine Prod.ext ?_ (Prod.ext ?_ ?_) <;> (try dsimp only) <;> omega)
        have o257a : ((xtl B n q d)).1 = xw B n ((xN B n ((xN B n q)))) 655 := by rw [o257]
        have o257b : ((xtl B n q d)).2.1 = ((xN B n ((xN B n q)))) := by rw [o257]
        have o257c : ((xtl B n q d)).2.2 = ((xN B n ((xN B n q)))) := by rw [o257]
        have h258 : RO T H252 r0 (xw B n ((xN B n ((xN B n q)))) 655) ((xN B n ((xN B n q)))) := (RO_fr w222 g0 ((wfr.rf (l := [(42, 18)])).put' e253 g0 rfl) rfl a235)
        exact wp_ireturn e201 c201_35 rfl ⟨rfl, w254, f255, z171, rfl, ⟨by omega, by omega⟩, (Or.inr ⟨by omega, by omega, RO_eq h258 (by omega) (by omega)⟩)⟩
      · have f259 := f209.tr f223 rfl
        show wp _ _ 201 31 [(1, vI z171), (0, .ref r0)] [vI z224, .ref r0] _ H218 _
        have u260 := RO_k a239
        refine wp_of e201 c201_31 (xp_I (pc' := 34) lf_9_303 w222 g0 sh_42 (by decide) (by decide) ty_42_18 rfl rfl (by omega) (by omega) ⟨by omega, by omega⟩ rfl (fun H261 e262 w263 => ?_))
        have f264 := f259.put' e262 g0 rfl
        have k265 : H261 r0 18 = z224 := wq_u_s e262
        refine wp_of e201 c201_34 (rw_iload_n (pc' := 35) (z := z171) rfl rfl ?_)
        have o266 : (xtl B n q d) = (xh B n (xN B n ((xN B n ((xN B n q))))) (xV B n (xN B n q) + 1) (min (xV B n (xN B n q) + 24) 24), (xN B n ((xN B n ((xN B n q))))), (xN B n ((xN B n ((xN B n q)))))) := by
          unfold xtl xrg
          try simp only [xs_xs, xs_z]
          repeat first | rw [xs_0 (by omega)] | rw [xs_1 (by omega)] | rw [if_pos (by omega)] | rw [if_neg (by omega)]
          first | done | rfl | assumption | (exfalso; omega) | (refine Prod.ext ?_ (Prod.ext ?_ ?_) <;> (try dsimp only) <;> omega)
        have o266a : ((xtl B n q d)).1 = xh B n (xN B n ((xN B n ((xN B n q))))) (xV B n (xN B n q) + 1) (min (xV B n (xN B n q) + 24) 24) := by rw [o266]
        have o266b : ((xtl B n q d)).2.1 = (xN B n ((xN B n ((xN B n q))))) := by rw [o266]
        have o266c : ((xtl B n q d)).2.2 = (xN B n ((xN B n ((xN B n q))))) := by rw [o266]
        have h267 : RO T H261 r0 (xh B n (xN B n ((xN B n ((xN B n q))))) (xV B n (xN B n q) + 1) (min (xV B n (xN B n q) + 24) 24)) (xN B n ((xN B n ((xN B n q))))) := (RO_fr w222 g0 ((wfr.rf (l := [(42, 18)])).put' e262 g0 rfl) rfl a239)
        exact wp_ireturn e201 c201_35 rfl ⟨rfl, w263, f264, z171, rfl, ⟨by omega, by omega⟩, (Or.inr ⟨by omega, by omega, RO_eq h267 (by omega) (by omega)⟩)⟩
    · have f268 := f182.tr f193 rfl
      show wp _ _ 201 13 [(1, vI z171), (0, .ref r0)] [vI z194, .ref r0] _ H188 _
      have u269 := RO_k a203
      refine wp_of e201 c201_13 (xp_I (pc' := 16) lf_9_300 w192 g0 sh_42 (by decide) (by decide) ty_42_17 rfl rfl (by omega) (by omega) ⟨by omega, by omega⟩ rfl (fun H270 e271 w272 => ?_))
      have f273 := f268.put' e271 g0 rfl
      have k274 : H270 r0 17 = z194 := wq_u_s e271
      refine wp_of e201 c201_16 (rw_aload_n (pc' := 17) (v := .ref r0) rfl rfl rfl ?_)
      refine wp_of e201 c201_17 (rw_aload_n (pc' := 18) (v := .ref r0) rfl rfl rfl ?_)
      refine wp_of e201 c201_18 (rw_ldcS (pc' := 20) (k := 87) rfl rfl rfl rfl ?_)
      refine wp_of e201 c201_20 (rw_aload_n (pc' := 21) (v := .ref r0) rfl rfl rfl ?_)
      refine wp_of e201 c201_21 (xg_I (pc' := 24) lf_9_300 w272 g0 sh_42 (by decide) (by decide) ty_42_17 rfl rfl (fun b275 b276 => ?_))
      refine wp_of e201 c201_24 (rw_iconst (pc' := 25) rfl ?_)
      refine wp_of e201 c201_25 (rw_iadd (pc' := 26) rfl ?_)
      refine wp_of e201 c201_26 (rw_bipush (pc' := 28) (z := 24) rfl (by decide) ?_)
      have k277 : H270 r0 5 = H165 r0 5 := ((wq_u_j e271 rfl).trans (f193 r0 5 _ g0 rfl))
      have q278 : H270 r0 5 = (rb : Int) := k277.trans q185
      have h279 : RO T H270 r0 (xh B n ((xN B n q)) 0 23) ((xN B n q)) := (RO_fr w192 g0 ((wfr.rf (l := [(42, 17)])).put' e271 g0 rfl) rfl a203)
      refine wp_of e201 c201_28 (xc_V (pc' := 31) (r := r0) (as := [.ref 87, vI ((H270 r0 17) + 1), vI 24]) (st := [.ref r0]) (lm_9_216) rfl rfl (Nat.le_of_ble_eq_true rfl) w272 g0 sh_42 (by decide) rfl (by decide) (u_182_o (fo := (xh B n ((xN B n q)) 0 23)) (po := (((xN B n q)))) (kk := 655) w272 g0 rfl ⟨by omega, by omega⟩ ⟨by omega, by omega⟩ q278 grb (by decide +kernel) h279) (fun R280 T281 H282 p283 => ?_))
      obtain ⟨e284, e286, z287, e285, b288, p289⟩ := p283
      subst e284
      subst e285
      subst e286
      obtain ⟨a290, a291⟩ := p289
      show wp _ _ 201 31 [(1, vI z171), (0, .ref r0)] [vI z287, .ref r0] _ H270 _
      have u292 := RO_k a291
      refine wp_of e201 c201_31 (xp_I (pc' := 34) lf_9_303 w272 g0 sh_42 (by decide) (by decide) ty_42_18 rfl rfl (by omega) (by omega) ⟨by omega, by omega⟩ rfl (fun H293 e294 w295 => ?_))
      have f296 := f273.put' e294 g0 rfl
      have k297 : H293 r0 18 = z287 := wq_u_s e294
      refine wp_of e201 c201_34 (rw_iload_n (pc' := 35) (z := z171) rfl rfl ?_)
      have o298 : (xtl B n q d) = (xh B n ((xN B n q)) 0 23, ((xN B n q)), ((xN B n q))) := by
        unfold xtl xrg
        try simp only [xs_xs, xs_z]
        repeat first | rw [xs_0 (by omega)] | rw [xs_1 (by omega)] | rw [if_pos (by omega)] | rw [if_neg (by omega)]
        first | done | rfl | assumption | (exfalso; omega) | (refine Prod.ext ?_ (Prod.ext ?_ ?_) <;> (try dsimp only) <;> omega)
      have o298a : ((xtl B n q d)).1 = xh B n ((xN B n q)) 0 23 := by rw [o298]
      have o298b : ((xtl B n q d)).2.1 = ((xN B n q)) := by rw [o298]
      have o298c : ((xtl B n q d)).2.2 = ((xN B n q)) := by rw [o298]
      have h299 : RO T H293 r0 (xh B n ((xN B n q)) 0 23) (((xN B n q))) := (RO_fr w272 g0 ((wfr.rf (l := [(42, 18)])).put' e294 g0 rfl) rfl a291)
      exact wp_ireturn e201 c201_35 rfl ⟨rfl, w295, f296, z171, rfl, ⟨by omega, by omega⟩, (Or.inr ⟨by omega, by omega, RO_eq h299 (by omega) (by omega)⟩)⟩
  · have f300 := f0.tr f170 rfl
    show wp _ _ 201 4 [(0, .ref r0)] [vI z171] _ H165 _
    have u301 := RO_k a181
    refine wp_of e201 c201_4 (rw_istore_n (pc' := 5) (z := z171) (L' := [(1, vI z171), (0, .ref r0)]) rfl rfl rfl ?_)
    refine wp_of e201 c201_5 (rw_aload_n (pc' := 6) (v := .ref r0) rfl rfl rfl ?_)
    refine wp_of e201 c201_6 (rw_aload_n (pc' := 7) (v := .ref r0) rfl rfl rfl ?_)
    refine wp_of e201 c201_7 (rw_iconst (pc' := 8) rfl ?_)
    refine wp_of e201 c201_8 (rw_bipush (pc' := 10) (z := 23) rfl (by decide) ?_)
    have k302 : H165 r0 5 = H r0 5 := (f170 r0 5 _ g0 rfl)
    have q303 : H165 r0 5 = (rb : Int) := k302.trans qrb
    refine wp_of e201 c201_10 (xc_V (pc' := 13) (r := r0) (as := [vI 0, vI 23]) (st := [.ref r0]) (lm_9_137) rfl rfl (Nat.le_of_ble_eq_true rfl) w169 g0 sh_42 (by decide) rfl (by decide) (u_184_o (fo := (xkn B n q d)) (po := q) w169 g0 ⟨by omega, by omega⟩ ⟨by omega, by omega⟩ q303 grb a181) (fun R304 T305 H306 p307 => ?_))
    obtain ⟨e308, e310, z311, e309, b312, p313⟩ := p307
    subst e308
    subst e309
    subst e310
    obtain ⟨a314, a315⟩ := p313
    show wp _ _ 201 13 [(1, vI z171), (0, .ref r0)] [vI z311, .ref r0] _ H165 _
    have u316 := RO_k a315
    refine wp_of e201 c201_13 (xp_I (pc' := 16) lf_9_300 w169 g0 sh_42 (by decide) (by decide) ty_42_17 rfl rfl (by omega) (by omega) ⟨by omega, by omega⟩ rfl (fun H317 e318 w319 => ?_))
    have f320 := f300.put' e318 g0 rfl
    have k321 : H317 r0 17 = z311 := wq_u_s e318
    refine wp_of e201 c201_16 (rw_aload_n (pc' := 17) (v := .ref r0) rfl rfl rfl ?_)
    refine wp_of e201 c201_17 (rw_aload_n (pc' := 18) (v := .ref r0) rfl rfl rfl ?_)
    refine wp_of e201 c201_18 (rw_ldcS (pc' := 20) (k := 87) rfl rfl rfl rfl ?_)
    refine wp_of e201 c201_20 (rw_aload_n (pc' := 21) (v := .ref r0) rfl rfl rfl ?_)
    refine wp_of e201 c201_21 (xg_I (pc' := 24) lf_9_300 w319 g0 sh_42 (by decide) (by decide) ty_42_17 rfl rfl (fun b322 b323 => ?_))
    refine wp_of e201 c201_24 (rw_iconst (pc' := 25) rfl ?_)
    refine wp_of e201 c201_25 (rw_iadd (pc' := 26) rfl ?_)
    refine wp_of e201 c201_26 (rw_bipush (pc' := 28) (z := 24) rfl (by decide) ?_)
    have k324 : H317 r0 5 = H165 r0 5 := (wq_u_j e318 rfl)
    have q325 : H317 r0 5 = (rb : Int) := k324.trans q303
    have h326 : RO T H317 r0 (xkn B n q d) q := (RO_fr w169 g0 ((wfr.rf (l := [(42, 17)])).put' e318 g0 rfl) rfl a315)
    refine wp_of e201 c201_28 (xc_V (pc' := 31) (r := r0) (as := [.ref 87, vI ((H317 r0 17) + 1), vI 24]) (st := [.ref r0]) (lm_9_216) rfl rfl (Nat.le_of_ble_eq_true rfl) w319 g0 sh_42 (by decide) rfl (by decide) (u_182_o (fo := (xkn B n q d)) (po := q) (kk := 655) w319 g0 rfl ⟨by omega, by omega⟩ ⟨by omega, by omega⟩ q325 grb (by decide +kernel) h326) (fun R327 T328 H329 p330 => ?_))
    obtain ⟨e331, e333, z334, e332, b335, p336⟩ := p330
    subst e331
    subst e332
    subst e333
    obtain ⟨a337, a338⟩ := p336
    show wp _ _ 201 31 [(1, vI z171), (0, .ref r0)] [vI z334, .ref r0] _ H317 _
    have u339 := RO_k a338
    refine wp_of e201 c201_31 (xp_I (pc' := 34) lf_9_303 w319 g0 sh_42 (by decide) (by decide) ty_42_18 rfl rfl (by omega) (by omega) ⟨by omega, by omega⟩ rfl (fun H340 e341 w342 => ?_))
    have f343 := f320.put' e341 g0 rfl
    have k344 : H340 r0 18 = z334 := wq_u_s e341
    refine wp_of e201 c201_34 (rw_iload_n (pc' := 35) (z := z171) rfl rfl ?_)
    have o345 : (xtl B n q d) = (xkn B n q d, q, q) := by
      unfold xtl xrg
      try simp only [xs_xs, xs_z]
      repeat first | rw [xs_0 (by omega)] | rw [xs_1 (by omega)] | rw [if_pos (by omega)] | rw [if_neg (by omega)]
      first | done | rfl | assumption | (exfalso; omega) | (refine Prod.ext ?_ (Prod.ext ?_ ?_) <;> (try dsimp only) <;> omega)
    have o345a : ((xtl B n q d)).1 = xkn B n q d := by rw [o345]
    have o345b : ((xtl B n q d)).2.1 = q := by rw [o345]
    have o345c : ((xtl B n q d)).2.2 = q := by rw [o345]
    have h346 : RO T H340 r0 (xkn B n q d) q := (RO_fr w319 g0 ((wfr.rf (l := [(42, 18)])).put' e341 g0 rfl) rfl a338)
    exact wp_ireturn e201 c201_35 rfl ⟨rfl, w342, f343, z171, rfl, ⟨by omega, by omega⟩, (Or.inr ⟨by omega, by omega, RO_eq h346 (by omega) (by omega)⟩)⟩
/-! StrikeAwakeModel.readHours()I o -/
abbrev uq_201_o (r0 : Nat) (rp : Nat) (rb : Nat) (fo : Int) (po : Int) (T : wq_T) (H : wq_H) : Option Value → wq_T → wq_H → Prop := fun r T' H' => T = T' ∧ WT T H' ∧ wfr [(42, 17), (42, 18)] T H H' ∧ ∃ z : Int, some (vI z) = r ∧ (0 ≤ z ∧ z ≤ 5) ∧ (((0 ≤ z ∧ z ≤ 5) ∧ RO T H' r0 fo po))
set_option maxHeartbeats 4000000 in
theorem u_201_o {kt : Nat → Option mc_E} {T : wq_T} {H : wq_H} {r0 : Nat} {rp : Nat} {rb : Nat} {fo : Int} {po : Int} (hW : WT T H) (g0 : T.2.2.2 r0 = some 42) (qrp : H r0 4 = (rp : Int)) (grp : T.2.2.2 rp = some 54) (qrb : H r0 5 = (rb : Int)) (grb : T.2.2.2 rb = some 43) (hRO_r0 : RO T H r0 fo po) : wpc kt 6 201 [.ref r0] T H (uq_201_o r0 rp rb fo po T H) := by
  refine wp_enter e201 (Nat.le_of_ble_eq_true rfl) rfl ?_
  have f0 : wfr [(42, 17), (42, 18)] T H H := wfr.rf
  show wp _ _ 201 0 [(0, .ref r0)] [] _ H _
  have u51 := RO_k hRO_r0
  refine wp_of e201 c201_0 (rw_aload_n (pc' := 1) (v := .ref r0) rfl rfl rfl ?_)
  refine wp_of e201 c201_1 (xc_V (pc' := 4) (r := r0) (as := []) (st := []) (lm_9_273) rfl rfl (Nat.le_of_ble_eq_true rfl) hW g0 sh_42 (by decide) rfl (by decide) (u_194_o (fo := fo) (po := po) hW g0 qrp grp qrb grb hRO_r0) (fun R52 T53 H54 p55 => ?_))
  obtain ⟨e56, e58, z59, e57, b60, p61⟩ := p55
  subst e56
  subst e57
  subst e58
  obtain ⟨a62, a63⟩ := p61
  show wp _ _ 201 4 [(0, .ref r0)] [vI z59] _ H _
  have u64 := RO_k a63
  refine wp_of e201 c201_4 (rw_istore_n (pc' := 5) (z := z59) (L' := [(1, vI z59), (0, .ref r0)]) rfl rfl rfl ?_)
  refine wp_of e201 c201_5 (rw_aload_n (pc' := 6) (v := .ref r0) rfl rfl rfl ?_)
  refine wp_of e201 c201_6 (rw_aload_n (pc' := 7) (v := .ref r0) rfl rfl rfl ?_)
  refine wp_of e201 c201_7 (rw_iconst (pc' := 8) rfl ?_)
  refine wp_of e201 c201_8 (rw_bipush (pc' := 10) (z := 23) rfl (by decide) ?_)
  refine wp_of e201 c201_10 (xc_V (pc' := 13) (r := r0) (as := [vI 0, vI 23]) (st := [.ref r0]) (lm_9_137) rfl rfl (Nat.le_of_ble_eq_true rfl) hW g0 sh_42 (by decide) rfl (by decide) (u_184_o (fo := fo) (po := po) hW g0 ⟨by omega, by omega⟩ ⟨by omega, by omega⟩ qrb grb a63) (fun R65 T66 H67 p68 => ?_))
  obtain ⟨e69, e71, z72, e70, b73, p74⟩ := p68
  subst e69
  subst e70
  subst e71
  obtain ⟨a75, a76⟩ := p74
  show wp _ _ 201 13 [(1, vI z59), (0, .ref r0)] [vI z72, .ref r0] _ H _
  have u77 := RO_k a76
  refine wp_of e201 c201_13 (xp_I (pc' := 16) lf_9_300 hW g0 sh_42 (by decide) (by decide) ty_42_17 rfl rfl (by omega) (by omega) ⟨by omega, by omega⟩ rfl (fun H78 e79 w80 => ?_))
  have f81 := f0.put' e79 g0 rfl
  have k82 : H78 r0 17 = z72 := wq_u_s e79
  refine wp_of e201 c201_16 (rw_aload_n (pc' := 17) (v := .ref r0) rfl rfl rfl ?_)
  refine wp_of e201 c201_17 (rw_aload_n (pc' := 18) (v := .ref r0) rfl rfl rfl ?_)
  refine wp_of e201 c201_18 (rw_ldcS (pc' := 20) (k := 87) rfl rfl rfl rfl ?_)
  refine wp_of e201 c201_20 (rw_aload_n (pc' := 21) (v := .ref r0) rfl rfl rfl ?_)
  refine wp_of e201 c201_21 (xg_I (pc' := 24) lf_9_300 w80 g0 sh_42 (by decide) (by decide) ty_42_17 rfl rfl (fun b83 b84 => ?_))
  refine wp_of e201 c201_24 (rw_iconst (pc' := 25) rfl ?_)
  refine wp_of e201 c201_25 (rw_iadd (pc' := 26) rfl ?_)
  refine wp_of e201 c201_26 (rw_bipush (pc' := 28) (z := 24) rfl (by decide) ?_)
  have k85 : H78 r0 5 = H r0 5 := (wq_u_j e79 rfl)
  have q86 : H78 r0 5 = (rb : Int) := k85.trans qrb
  have h87 : RO T H78 r0 fo po := (RO_fr hW g0 ((wfr.rf (l := [(42, 17)])).put' e79 g0 rfl) rfl a76)
  refine wp_of e201 c201_28 (xc_V (pc' := 31) (r := r0) (as := [.ref 87, vI ((H78 r0 17) + 1), vI 24]) (st := [.ref r0]) (lm_9_216) rfl rfl (Nat.le_of_ble_eq_true rfl) w80 g0 sh_42 (by decide) rfl (by decide) (u_182_o (fo := fo) (po := po) (kk := 655) w80 g0 rfl ⟨by omega, by omega⟩ ⟨by omega, by omega⟩ q86 grb (by decide +kernel) h87) (fun R88 T89 H90 p91 => ?_))
  obtain ⟨e92, e94, z95, e93, b96, p97⟩ := p91
  subst e92
  subst e93
  subst e94
  obtain ⟨a98, a99⟩ := p97
  show wp _ _ 201 31 [(1, vI z59), (0, .ref r0)] [vI z95, .ref r0] _ H78 _
  have u100 := RO_k a99
  refine wp_of e201 c201_31 (xp_I (pc' := 34) lf_9_303 w80 g0 sh_42 (by decide) (by decide) ty_42_18 rfl rfl (by omega) (by omega) ⟨by omega, by omega⟩ rfl (fun H101 e102 w103 => ?_))
  have f104 := f81.put' e102 g0 rfl
  have k105 : H101 r0 18 = z95 := wq_u_s e102
  refine wp_of e201 c201_34 (rw_iload_n (pc' := 35) (z := z59) rfl rfl ?_)
  have h106 : RO T H101 r0 fo po := (RO_fr w80 g0 ((wfr.rf (l := [(42, 18)])).put' e102 g0 rfl) rfl a99)
  exact wp_ireturn e201 c201_35 rfl ⟨rfl, w103, f104, z59, rfl, ⟨by omega, by omega⟩, ⟨by omega, h106⟩⟩
/-! StrikeAwakeModel.readTold()V k -/
abbrev uq_200_k (r0 : Nat) (rp : Nat) (rb : Nat) (B : Nat → Int) (n : Int) (q : Int) (d : xD) (T : wq_T) (H : wq_H) : Option Value → wq_T → wq_H → Prop := fun r T' H' => T = T' ∧ WT T H' ∧ wfr [(54, 6), (42, 8), (42, 9), (42, 10), (42, 11), (42, 12), (42, 13), (42, 14), (42, 15), (42, 17), (42, 18), (68, 999), (69, 999)] T H H' ∧ none = r ∧ ((((xl6 B n q d).1 = 0) ∧ ((xl6 B n q d).2.2 = (xN B n (xN B n (xN B n (xN B n (xN B n q)))))) ∧ (q ≤ (xN B n (xN B n (xN B n (xN B n (xN B n q)))))) ∧ RC T H' r0 B n (xN B n (xN B n (xN B n (xN B n (xN B n q))))) ∧ DM T H' rp r0 (xdtl B n (xN B n q) d)) ∨ (((xl6 B n q d).1 ≠ 0) ∧ RO T H' r0 ((xl6 B n q d).1) ((xl6 B n q d).2.1)))
set_option maxHeartbeats 4000000 in
theorem u_200_k {kt : Nat → Option mc_E} {T : wq_T} {H : wq_H} {r0 : Nat} {rp : Nat} {rb : Nat} {B : Nat → Int} {n : Int} {q : Int} {d : xD} (hW : WT T H) (g0 : T.2.2.2 r0 = some 42) (qrp : H r0 4 = (rp : Int)) (grp : T.2.2.2 rp = some 54) (qrb : H r0 5 = (rb : Int)) (grb : T.2.2.2 rb = some 43) (p0 : xK B n q = 1) (hRC_r0 : RC T H r0 B n q) (hDM_rp : DM T H rp r0 d) : wpc kt 7 200 [.ref r0] T H (uq_200_k r0 rp rb B n q d T H) := by
  refine wp_enter e200 (Nat.le_of_ble_eq_true rfl) rfl ?_
  have f0 : wfr [(54, 6), (42, 8), (42, 9), (42, 10), (42, 11), (42, 12), (42, 13), (42, 14), (42, 15), (42, 17), (42, 18), (68, 999), (69, 999)] T H H := wfr.rf
  show wp _ _ 200 0 [(0, .ref r0)] [] _ H _
  have u144 := RC_k hRC_r0
  have u145 := DM_k hDM_rp
  have h146 : MA9 T H rp (d 1) := hDM_rp.2.2.2.1
  have h147 : MA10 T H rp (d 2) := hDM_rp.2.2.2.2.1
  have h148 : MA11 T H rp (d 3) := hDM_rp.2.2.2.2.2.1
  have h149 : MA12 T H rp (d 4) := hDM_rp.2.2.2.2.2.2.1
  have h150 : MA13 T H rp (d 5) := hDM_rp.2.2.2.2.2.2.2.1
  have h151 : MA14 T H rp (d 6) := hDM_rp.2.2.2.2.2.2.2.2.1
  have h152 : MA15 T H rp (d 7) := hDM_rp.2.2.2.2.2.2.2.2.2.1
  have h153 : MA16 T H rp (d 8) := hDM_rp.2.2.2.2.2.2.2.2.2.2.1
  have h154 : MA17 T H rp (d 9) := hDM_rp.2.2.2.2.2.2.2.2.2.2.2.1
  have h155 : MA18 T H rp (d 10) := hDM_rp.2.2.2.2.2.2.2.2.2.2.2.2.1
  have h156 : MA19 T H rp (d 11) := hDM_rp.2.2.2.2.2.2.2.2.2.2.2.2.2.1
  have h157 : MA20 T H rp (d 12) := hDM_rp.2.2.2.2.2.2.2.2.2.2.2.2.2.2.1
  have h158 : MA21 T H rp (d 13) := hDM_rp.2.2.2.2.2.2.2.2.2.2.2.2.2.2.2.1
  have h159 : MA22 T H rp (d 14) := hDM_rp.2.2.2.2.2.2.2.2.2.2.2.2.2.2.2.2.1
  have h160 : MA23 T H rp (d 15) := hDM_rp.2.2.2.2.2.2.2.2.2.2.2.2.2.2.2.2.2.1
  have h161 : MA25 T H rp (d 17) := hDM_rp.2.2.2.2.2.2.2.2.2.2.2.2.2.2.2.2.2.2.1
  have h162 : MA26 T H rp (d 16) := hDM_rp.2.2.2.2.2.2.2.2.2.2.2.2.2.2.2.2.2.2.2
  refine wp_of e200 c200_0 (rw_aload_n (pc' := 1) (v := .ref r0) rfl rfl rfl ?_)
  refine wp_of e200 c200_1 (rw_aload_n (pc' := 2) (v := .ref r0) rfl rfl rfl ?_)
  refine wp_of e200 c200_2 (xg_K (pc' := 5) lf_9_166 hW g0 sh_42 (by decide) (by decide) rfl qrp rfl ?_)
  refine wp_of e200 c200_5 (xg_I (pc' := 8) lf_9_306 hW grp sh_54 (by decide) (by decide) ty_54_6 rfl rfl (fun b163 b164 => ?_))
  refine wp_of e200 c200_8 (rw_iconst (pc' := 9) rfl ?_)
  refine wp_of e200 c200_9 (xc_V (pc' := 12) (r := r0) (as := [vI (H rp 6), vI 4]) (st := []) (lm_9_228) rfl rfl (Nat.le_of_ble_eq_true rfl) hW g0 sh_42 (by decide) rfl (by decide) (u_188_k (B := B) (n := n) (q := q) hW g0 ⟨by omega, by omega⟩ ⟨by omega, by omega⟩ qrb grb (by omega) hRC_r0) (fun R165 T166 H167 p168 => ?_))
  obtain ⟨e169, w171, f172, e170, p173⟩ := p168
  subst e169
  subst e170
  rcases p173 with ⟨a174, a175⟩ | ⟨a176, a177⟩
  · have f178 := f0.tr f172 rfl
    show wp _ _ 200 12 [(0, .ref r0)] [] _ H167 _
    have u179 := RC_k a175
    refine wp_of e200 c200_12 (rw_aload_n (pc' := 13) (v := .ref r0) rfl rfl rfl ?_)
    have k180 : H167 r0 4 = H r0 4 := (f172 r0 4 _ g0 rfl)
    have q181 : H167 r0 4 = (rp : Int) := k180.trans qrp
    have k182 : H167 r0 5 = H r0 5 := (f172 r0 5 _ g0 rfl)
    have q183 : H167 r0 5 = (rb : Int) := k182.trans qrb
    have h184 : DM T H167 rp r0 d := (DM_fr hW grp f172 rfl hDM_rp)
    refine wp_of e200 c200_13 (xc_V (pc' := 16) (r := r0) (as := []) (st := []) (lm_9_309) rfl rfl (Nat.le_of_ble_eq_true rfl) w171 g0 sh_42 (by decide) rfl (by decide) (u_201_k (B := B) (n := n) (q := ((xN B n q))) (d := d) w171 g0 q181 grp q183 grb a175 h184) (fun R185 T186 H187 p188 => ?_))
    obtain ⟨e189, w191, f192, z193, e190, b194, p195⟩ := p188
    subst e189
    subst e190
    rcases p195 with ⟨a196, a197, a198, a199, a200, a201, a202, a203, a204, a205, a206⟩ | ⟨a207, a208, a209⟩
    · have f210 := f178.tr f192 rfl
      show wp _ _ 200 16 [(0, .ref r0)] [vI z193] _ H187 _
      have u211 := RC_k a206
      refine wp_of e200 c200_16 (rw_istore_n (pc' := 17) (z := z193) (L' := [(1, vI z193), (0, .ref r0)]) rfl rfl rfl ?_)
      refine wp_of e200 c200_17 (rw_aload_n (pc' := 18) (v := .ref r0) rfl rfl rfl ?_)
      refine wp_of e200 c200_18 (xg_I (pc' := 21) lf_9_75 w191 g0 sh_42 (by decide) (by decide) ty_42_9 rfl rfl (fun b212 b213 => ?_))
      refine wp_of e200 c200_21 (rw_iconst (pc' := 22) rfl ?_)
      refine wp_of e200 c200_22 (rw_icmp_ne (p1 := 26) (p2 := 25) (by decide) rfl ⟨by omega, by omega⟩ ⟨by omega, by omega⟩ (fun c214 => ?_) (fun c214 => ?_))
      · refine wp_of e200 c200_26 (rw_aload_n (pc' := 27) (v := .ref r0) rfl rfl rfl ?_)
        have k215 : H187 r0 4 = H167 r0 4 := (f192 r0 4 _ g0 rfl)
        have q216 : H187 r0 4 = (rp : Int) := k215.trans q181
        refine wp_of e200 c200_27 (xg_K (pc' := 30) lf_9_166 w191 g0 sh_42 (by decide) (by decide) rfl q216 rfl ?_)
        refine wp_of e200 c200_30 (xg_R (pc' := 33) lf_9_312 w191 grp sh_54 (by decide) (by decide) ty_54_22 rfl rfl (fun r217 q218 g219 => ?_))
        refine wp_of e200 c200_33 (rw_aload_n (pc' := 34) (v := .ref r0) rfl rfl rfl ?_)
        refine wp_of e200 c200_34 (xg_K (pc' := 37) lf_9_166 w191 g0 sh_42 (by decide) (by decide) rfl q216 rfl ?_)
        have k220 : H187 rp 6 = H rp 6 := ((f192 rp 6 _ grp rfl).trans (f172 rp 6 _ grp rfl))
        refine wp_of e200 c200_37 (xg_I (pc' := 40) lf_9_306 w191 grp sh_54 (by decide) (by decide) ty_54_6 rfl rfl (fun b221 b222 => ?_))
        refine wp_of e200 c200_40 (rw_iload_n (pc' := 41) (z := z193) rfl rfl ?_)
        have h223 : MA22 T H187 rp (d 14) := (MA22_fr w171 grp f192 rfl (MA22_fr hW grp f172 rfl h159))
        refine wp_of e200 c200_41 (xs_I (pc' := 42) w191 g219 (by decide) sh_68 (by decide) (ty_68 _) (by omega) (by omega) ⟨by omega, by omega⟩ (by omega) (by omega) rfl (fun H224 e225 w226 => ?_))
        have f227 := f210.put' e225 g219 rfl
        have h228 : MA22 T H224 rp (xdtl B n (xN B n q) d 14) := MA_put h223 q218 grp g219 (by decide) e225 ((xdtl_c (k := ((H187 rp 6).toNat)) (by omega)).1.trans (by omega)) (xdtl_c (k := ((H187 rp 6).toNat)) (by omega)).2
        refine wp_of e200 c200_42 (rw_aload_n (pc' := 43) (v := .ref r0) rfl rfl rfl ?_)
        have k229 : H224 r0 4 = H187 r0 4 := (wq_u_t e225 g219 g0 rfl 4)
        have q230 : H224 r0 4 = (rp : Int) := k229.trans q216
        refine wp_of e200 c200_43 (xg_K (pc' := 46) lf_9_166 w226 g0 sh_42 (by decide) (by decide) rfl q230 rfl ?_)
        refine wp_of e200 c200_46 (xg_R (pc' := 49) lf_9_315 w226 grp sh_54 (by decide) (by decide) ty_54_23 rfl rfl (fun r231 q232 g233 => ?_))
        refine wp_of e200 c200_49 (rw_aload_n (pc' := 50) (v := .ref r0) rfl rfl rfl ?_)
        refine wp_of e200 c200_50 (xg_K (pc' := 53) lf_9_166 w226 g0 sh_42 (by decide) (by decide) rfl q230 rfl ?_)
        have k234 : H224 rp 6 = H187 rp 6 := (wq_u_t e225 g219 grp rfl 6)
        refine wp_of e200 c200_53 (xg_I (pc' := 56) lf_9_306 w226 grp sh_54 (by decide) (by decide) ty_54_6 rfl rfl (fun b235 b236 => ?_))
        refine wp_of e200 c200_56 (rw_aload_n (pc' := 57) (v := .ref r0) rfl rfl rfl ?_)
        have k237 : H224 r0 17 = H187 r0 17 := (wq_u_t e225 g219 g0 rfl 17)
        refine wp_of e200 c200_57 (xg_I (pc' := 60) lf_9_300 w226 g0 sh_42 (by decide) (by decide) ty_42_17 rfl rfl (fun b238 b239 => ?_))
        refine wp_of e200 c200_60 (rw_aload_n (pc' := 61) (v := .ref r0) rfl rfl rfl ?_)
        have k240 : H224 r0 18 = H187 r0 18 := (wq_u_t e225 g219 g0 rfl 18)
        refine wp_of e200 c200_61 (xg_I (pc' := 64) lf_9_303 w226 g0 sh_42 (by decide) (by decide) ty_42_18 rfl rfl (fun b241 b242 => ?_))
        refine wp_of e200 c200_64 (xc_S (pc' := 67) (as := [vI (H224 r0 17), vI (H224 r0 18)]) (st := [vI (H224 rp 6), .ref r231]) (lm_9_318) rfl rfl (Nat.le_of_ble_eq_true rfl) rfl (by decide) (u_202 (lo := (xV B n (xN B n (xN B n q)))) (hi := (xV B n (xN B n (xN B n (xN B n (xN B n q)))))) w226 ⟨by omega, by omega⟩ ⟨by omega, by omega⟩ (by omega) (by omega) (by omega)) (fun R243 T244 H245 p246 => ?_))
        obtain ⟨e247, e249, z250, e248, b251, p252⟩ := p246
        subst e247
        subst e248
        subst e249
        show wp _ _ 200 67 [(1, vI z193), (0, .ref r0)] [vI z250, vI (H224 rp 6), .ref r231] _ H224 _
        have h254 : MA23 T H224 rp (d 15) := (MA23_fr w191 grp ((wfr.rf (l := [(68, 999)])).put' e225 g219 rfl) rfl (MA23_fr w171 grp f192 rfl (MA23_fr hW grp f172 rfl h160)))
        refine wp_of e200 c200_67 (xs_I (pc' := 68) w226 g233 (by decide) sh_69 (by decide) (ty_69 _) (by omega) (by omega) ⟨by omega, by omega⟩ (by omega) (by omega) rfl (fun H255 e256 w257 => ?_))
        have f258 := f227.put' e256 g233 rfl
        have h259 : MA23 T H255 rp (xdtl B n (xN B n q) d 15) := MA_put h254 q232 grp g233 (by decide) e256 ((xdtl_e (k := ((H224 rp 6).toNat)) (by omega)).1.trans (by omega)) (xdtl_e (k := ((H224 rp 6).toNat)) (by omega)).2
        refine wp_of e200 c200_68 (rw_aload_n (pc' := 69) (v := .ref r0) rfl rfl rfl ?_)
        have k260 : H255 r0 4 = H224 r0 4 := (wq_u_t e256 g233 g0 rfl 4)
        have q261 : H255 r0 4 = (rp : Int) := k260.trans q230
        refine wp_of e200 c200_69 (xg_K (pc' := 72) lf_9_166 w257 g0 sh_42 (by decide) (by decide) rfl q261 rfl ?_)
        refine wp_of e200 c200_72 (rw_dup (pc' := 73) rfl rfl ?_)
        have k262 : H255 rp 6 = H224 rp 6 := (wq_u_t e256 g233 grp rfl 6)
        refine wp_of e200 c200_73 (xg_I (pc' := 76) lf_9_306 w257 grp sh_54 (by decide) (by decide) ty_54_6 rfl rfl (fun b263 b264 => ?_))
        refine wp_of e200 c200_76 (rw_iconst (pc' := 77) rfl ?_)
        refine wp_of e200 c200_77 (rw_iadd (pc' := 78) rfl ?_)
        refine wp_of e200 c200_78 (xp_I (pc' := 81) lf_9_306 w257 grp sh_54 (by decide) (by decide) ty_54_6 rfl rfl (by omega) (by omega) ⟨by omega, by omega⟩ rfl (fun H265 e266 w267 => ?_))
        have f268 := f258.put' e266 grp rfl
        have k269 : H265 rp 6 = (H255 rp 6) + 1 := wq_u_s e266
        have k270 : H265 rp 0 = H rp 0 := ((wq_u_j e266 rfl).trans ((wq_u_t e256 g233 grp rfl 0).trans ((wq_u_t e225 g219 grp rfl 0).trans ((f192 rp 0 _ grp rfl).trans (f172 rp 0 _ grp rfl)))))
        have k271 : H265 rp 1 = H rp 1 := ((wq_u_j e266 rfl).trans ((wq_u_t e256 g233 grp rfl 1).trans ((wq_u_t e225 g219 grp rfl 1).trans ((f192 rp 1 _ grp rfl).trans (f172 rp 1 _ grp rfl)))))
        have k272 : H265 rp 2 = H rp 2 := ((wq_u_j e266 rfl).trans ((wq_u_t e256 g233 grp rfl 2).trans ((wq_u_t e225 g219 grp rfl 2).trans ((f192 rp 2 _ grp rfl).trans (f172 rp 2 _ grp rfl)))))
        have k273 : H265 rp 3 = H rp 3 := ((wq_u_j e266 rfl).trans ((wq_u_t e256 g233 grp rfl 3).trans ((wq_u_t e225 g219 grp rfl 3).trans ((f192 rp 3 _ grp rfl).trans (f172 rp 3 _ grp rfl)))))
        have k274 : H265 rp 4 = H rp 4 := ((wq_u_j e266 rfl).trans ((wq_u_t e256 g233 grp rfl 4).trans ((wq_u_t e225 g219 grp rfl 4).trans ((f192 rp 4 _ grp rfl).trans (f172 rp 4 _ grp rfl)))))
        have k275 : H265 rp 5 = H rp 5 := ((wq_u_j e266 rfl).trans ((wq_u_t e256 g233 grp rfl 5).trans ((wq_u_t e225 g219 grp rfl 5).trans ((f192 rp 5 _ grp rfl).trans (f172 rp 5 _ grp rfl)))))
        have k276 : H265 rp 7 = H rp 7 := ((wq_u_j e266 rfl).trans ((wq_u_t e256 g233 grp rfl 7).trans ((wq_u_t e225 g219 grp rfl 7).trans ((f192 rp 7 _ grp rfl).trans (f172 rp 7 _ grp rfl)))))
        have k277 : H265 rp 8 = H rp 8 := ((wq_u_j e266 rfl).trans ((wq_u_t e256 g233 grp rfl 8).trans ((wq_u_t e225 g219 grp rfl 8).trans ((f192 rp 8 _ grp rfl).trans (f172 rp 8 _ grp rfl)))))
        have k278 : H265 r0 16 = H r0 16 := ((wq_u_t e266 grp g0 rfl 16).trans ((wq_u_t e256 g233 g0 rfl 16).trans ((wq_u_t e225 g219 g0 rfl 16).trans ((f192 r0 16 _ g0 rfl).trans (f172 r0 16 _ g0 rfl)))))
        have o279 : (xl6 B n q d) = (0, ((xN B n q)), (xN B n (xN B n (xN B n (xN B n ((xN B n q))))))) := by
          unfold xl6
          repeat first | rw [xs_0 (by omega)] | rw [xs_1 (by omega)] | rw [if_pos (by omega)] | rw [if_neg (by omega)]
          first | done | rfl | assumption | (exfalso; omega) | (refine Prod.ext ?_ (Prod.ext ?_ ?_) <;> (try dsimp only) <;> omega)
        have o279a : ((xl6 B n q d)).1 = 0 := by rw [o279]
        have o279b : ((xl6 B n q d)).2.1 = ((xN B n q)) := by rw [o279]
        have o279c : ((xl6 B n q d)).2.2 = (xN B n (xN B n (xN B n (xN B n ((xN B n q)))))) := by rw [o279]
        have _l := @xdtl_v B n (xN B n q) d
        have h280 : RC T H265 r0 B n (xN B n (xN B n (xN B n (xN B n ((xN B n q)))))) := (RC_fr w257 g0 ((wfr.rf (l := [(54, 6)])).put' e266 grp rfl) rfl (RC_fr w226 g0 ((wfr.rf (l := [(69, 999)])).put' e256 g233 rfl) rfl (RC_fr w191 g0 ((wfr.rf (l := [(68, 999)])).put' e225 g219 rfl) rfl a206)))
        have h281 : MA9 T H265 rp (d 1) := (MA9_fr w257 grp ((wfr.rf (l := [(54, 6)])).put' e266 grp rfl) rfl (MA9_fr w226 grp ((wfr.rf (l := [(69, 999)])).put' e256 g233 rfl) rfl (MA9_fr w191 grp ((wfr.rf (l := [(68, 999)])).put' e225 g219 rfl) rfl (MA9_fr w171 grp f192 rfl (MA9_fr hW grp f172 rfl h146)))))
        have h282 : MA10 T H265 rp (d 2) := (MA10_fr w257 grp ((wfr.rf (l := [(54, 6)])).put' e266 grp rfl) rfl (MA10_fr w226 grp ((wfr.rf (l := [(69, 999)])).put' e256 g233 rfl) rfl (MA10_fr w191 grp ((wfr.rf (l := [(68, 999)])).put' e225 g219 rfl) rfl (MA10_fr w171 grp f192 rfl (MA10_fr hW grp f172 rfl h147)))))
        have h283 : MA11 T H265 rp (d 3) := (MA11_fr w257 grp ((wfr.rf (l := [(54, 6)])).put' e266 grp rfl) rfl (MA11_fr w226 grp ((wfr.rf (l := [(69, 999)])).put' e256 g233 rfl) rfl (MA11_fr w191 grp ((wfr.rf (l := [(68, 999)])).put' e225 g219 rfl) rfl (MA11_fr w171 grp f192 rfl (MA11_fr hW grp f172 rfl h148)))))
        have h284 : MA12 T H265 rp (d 4) := (MA12_fr w257 grp ((wfr.rf (l := [(54, 6)])).put' e266 grp rfl) rfl (MA12_fr w226 grp ((wfr.rf (l := [(69, 999)])).put' e256 g233 rfl) rfl (MA12_fr w191 grp ((wfr.rf (l := [(68, 999)])).put' e225 g219 rfl) rfl (MA12_fr w171 grp f192 rfl (MA12_fr hW grp f172 rfl h149)))))
        have h285 : MA13 T H265 rp (d 5) := (MA13_fr w257 grp ((wfr.rf (l := [(54, 6)])).put' e266 grp rfl) rfl (MA13_fr w226 grp ((wfr.rf (l := [(69, 999)])).put' e256 g233 rfl) rfl (MA13_fr w191 grp ((wfr.rf (l := [(68, 999)])).put' e225 g219 rfl) rfl (MA13_fr w171 grp f192 rfl (MA13_fr hW grp f172 rfl h150)))))
        have h286 : MA14 T H265 rp (d 6) := (MA14_fr w257 grp ((wfr.rf (l := [(54, 6)])).put' e266 grp rfl) rfl (MA14_fr w226 grp ((wfr.rf (l := [(69, 999)])).put' e256 g233 rfl) rfl (MA14_fr w191 grp ((wfr.rf (l := [(68, 999)])).put' e225 g219 rfl) rfl (MA14_fr w171 grp f192 rfl (MA14_fr hW grp f172 rfl h151)))))
        have h287 : MA15 T H265 rp (d 7) := (MA15_fr w257 grp ((wfr.rf (l := [(54, 6)])).put' e266 grp rfl) rfl (MA15_fr w226 grp ((wfr.rf (l := [(69, 999)])).put' e256 g233 rfl) rfl (MA15_fr w191 grp ((wfr.rf (l := [(68, 999)])).put' e225 g219 rfl) rfl (MA15_fr w171 grp f192 rfl (MA15_fr hW grp f172 rfl h152)))))
        have h288 : MA16 T H265 rp (d 8) := (MA16_fr w257 grp ((wfr.rf (l := [(54, 6)])).put' e266 grp rfl) rfl (MA16_fr w226 grp ((wfr.rf (l := [(69, 999)])).put' e256 g233 rfl) rfl (MA16_fr w191 grp ((wfr.rf (l := [(68, 999)])).put' e225 g219 rfl) rfl (MA16_fr w171 grp f192 rfl (MA16_fr hW grp f172 rfl h153)))))
        have h289 : MA17 T H265 rp (d 9) := (MA17_fr w257 grp ((wfr.rf (l := [(54, 6)])).put' e266 grp rfl) rfl (MA17_fr w226 grp ((wfr.rf (l := [(69, 999)])).put' e256 g233 rfl) rfl (MA17_fr w191 grp ((wfr.rf (l := [(68, 999)])).put' e225 g219 rfl) rfl (MA17_fr w171 grp f192 rfl (MA17_fr hW grp f172 rfl h154)))))
        have h290 : MA18 T H265 rp (d 10) := (MA18_fr w257 grp ((wfr.rf (l := [(54, 6)])).put' e266 grp rfl) rfl (MA18_fr w226 grp ((wfr.rf (l := [(69, 999)])).put' e256 g233 rfl) rfl (MA18_fr w191 grp ((wfr.rf (l := [(68, 999)])).put' e225 g219 rfl) rfl (MA18_fr w171 grp f192 rfl (MA18_fr hW grp f172 rfl h155)))))
        have h291 : MA19 T H265 rp (d 11) := (MA19_fr w257 grp ((wfr.rf (l := [(54, 6)])).put' e266 grp rfl) rfl (MA19_fr w226 grp ((wfr.rf (l := [(69, 999)])).put' e256 g233 rfl) rfl (MA19_fr w191 grp ((wfr.rf (l := [(68, 999)])).put' e225 g219 rfl) rfl (MA19_fr w171 grp f192 rfl (MA19_fr hW grp f172 rfl h156)))))
        have h292 : MA20 T H265 rp (d 12) := (MA20_fr w257 grp ((wfr.rf (l := [(54, 6)])).put' e266 grp rfl) rfl (MA20_fr w226 grp ((wfr.rf (l := [(69, 999)])).put' e256 g233 rfl) rfl (MA20_fr w191 grp ((wfr.rf (l := [(68, 999)])).put' e225 g219 rfl) rfl (MA20_fr w171 grp f192 rfl (MA20_fr hW grp f172 rfl h157)))))
        have h293 : MA21 T H265 rp (d 13) := (MA21_fr w257 grp ((wfr.rf (l := [(54, 6)])).put' e266 grp rfl) rfl (MA21_fr w226 grp ((wfr.rf (l := [(69, 999)])).put' e256 g233 rfl) rfl (MA21_fr w191 grp ((wfr.rf (l := [(68, 999)])).put' e225 g219 rfl) rfl (MA21_fr w171 grp f192 rfl (MA21_fr hW grp f172 rfl h158)))))
        have h294 : MA22 T H265 rp (xdtl B n (xN B n q) d 14) := (MA22_fr w257 grp ((wfr.rf (l := [(54, 6)])).put' e266 grp rfl) rfl (MA22_fr w226 grp ((wfr.rf (l := [(69, 999)])).put' e256 g233 rfl) rfl h228))
        have h295 : MA23 T H265 rp (xdtl B n (xN B n q) d 15) := (MA23_fr w257 grp ((wfr.rf (l := [(54, 6)])).put' e266 grp rfl) rfl h259)
        have h296 : MA25 T H265 rp (d 17) := (MA25_fr w257 grp ((wfr.rf (l := [(54, 6)])).put' e266 grp rfl) rfl (MA25_fr w226 grp ((wfr.rf (l := [(69, 999)])).put' e256 g233 rfl) rfl (MA25_fr w191 grp ((wfr.rf (l := [(68, 999)])).put' e225 g219 rfl) rfl (MA25_fr w171 grp f192 rfl (MA25_fr hW grp f172 rfl h161)))))
        have h297 : MA26 T H265 rp (d 16) := (MA26_fr w257 grp ((wfr.rf (l := [(54, 6)])).put' e266 grp rfl) rfl (MA26_fr w226 grp ((wfr.rf (l := [(69, 999)])).put' e256 g233 rfl) rfl (MA26_fr w191 grp ((wfr.rf (l := [(68, 999)])).put' e225 g219 rfl) rfl (MA26_fr w171 grp f192 rfl (MA26_fr hW grp f172 rfl h162)))))
        exact wp_return e200 c200_81 rfl ⟨rfl, w267, f268, rfl, (Or.inl ⟨by omega, by omega, by omega, h280, DM_mk hDM_rp.1 ⟨by omega, by omega, by omega, by omega, by omega, by omega, by omega, by omega, by omega, by omega, by omega, by omega⟩ (xdP_cg hDM_rp.2.2.1 (fun i h1 h2 => by unfold xdtl; rw [wq_u_row (by omega), wq_u_row (by omega), wq_u_row (by omega)])) h281 h282 h283 h284 h285 h286 h287 h288 h289 h290 h291 h292 h293 h294 h295 h296 h297 ⟨(by unfold xdtl; rw [wq_u_row (by decide), wq_u_row (by decide), wq_u_row (by decide)]), (by unfold xdtl; rw [wq_u_row (by decide), wq_u_row (by decide), wq_u_row (by decide)]), (by unfold xdtl; rw [wq_u_row (by decide), wq_u_row (by decide), wq_u_row (by decide)]), (by unfold xdtl; rw [wq_u_row (by decide), wq_u_row (by decide), wq_u_row (by decide)]), (by unfold xdtl; rw [wq_u_row (by decide), wq_u_row (by decide), wq_u_row (by decide)]), (by unfold xdtl; rw [wq_u_row (by decide), wq_u_row (by decide), wq_u_row (by decide)]), (by unfold xdtl; rw [wq_u_row (by decide), wq_u_row (by decide), wq_u_row (by decide)]), (by unfold xdtl; rw [wq_u_row (by decide), wq_u_row (by decide), wq_u_row (by decide)]), (by unfold xdtl; rw [wq_u_row (by decide), wq_u_row (by decide), wq_u_row (by decide)]), (by unfold xdtl; rw [wq_u_row (by decide), wq_u_row (by decide), wq_u_row (by decide)]), (by unfold xdtl; rw [wq_u_row (by decide), wq_u_row (by decide), wq_u_row (by decide)]), (by unfold xdtl; rw [wq_u_row (by decide), wq_u_row (by decide), wq_u_row (by decide)]), (by unfold xdtl; rw [wq_u_row (by decide), wq_u_row (by decide), wq_u_row (by decide)]), rfl, rfl, (by unfold xdtl; rw [wq_u_row (by decide), wq_u_row (by decide), wq_u_row (by decide)]), (by unfold xdtl; rw [wq_u_row (by decide), wq_u_row (by decide), wq_u_row (by decide)])⟩⟩)⟩
      · exfalso
        omega
    · have f298 := f178.tr f192 rfl
      show wp _ _ 200 16 [(0, .ref r0)] [vI z193] _ H187 _
      have u299 := RO_k a209
      refine wp_of e200 c200_16 (rw_istore_n (pc' := 17) (z := z193) (L' := [(1, vI z193), (0, .ref r0)]) rfl rfl rfl ?_)
      refine wp_of e200 c200_17 (rw_aload_n (pc' := 18) (v := .ref r0) rfl rfl rfl ?_)
      refine wp_of e200 c200_18 (xg_I (pc' := 21) lf_9_75 w191 g0 sh_42 (by decide) (by decide) ty_42_9 rfl rfl (fun b300 b301 => ?_))
      refine wp_of e200 c200_21 (rw_iconst (pc' := 22) rfl ?_)
      refine wp_of e200 c200_22 (rw_icmp_ne (p1 := 26) (p2 := 25) (by decide) rfl ⟨by omega, by omega⟩ ⟨by omega, by omega⟩ (fun c302 => ?_) (fun c302 => ?_))
      · exfalso
        omega
      · have o303 : (xl6 B n q d) = ((xtl B n ((xN B n q)) d).1, (xtl B n ((xN B n q)) d).2.1, (xtl B n ((xN B n q)) d).2.2) := by
          unfold xl6
          repeat first | rw [xs_0 (by omega)] | rw [xs_1 (by omega)] | rw [if_pos (by omega)] | rw [if_neg (by omega)]
          first | done | rfl | assumption | (exfalso; omega) | (refine Prod.ext ?_ (Prod.ext ?_ ?_) <;> (try dsimp only) <;> omega)
        have o303a : ((xl6 B n q d)).1 = (xtl B n ((xN B n q)) d).1 := by rw [o303]
        have o303b : ((xl6 B n q d)).2.1 = (xtl B n ((xN B n q)) d).2.1 := by rw [o303]
        have o303c : ((xl6 B n q d)).2.2 = (xtl B n ((xN B n q)) d).2.2 := by rw [o303]
        exact wp_return e200 c200_25 rfl ⟨rfl, w191, f298, rfl, (Or.inr ⟨by omega, RO_eq a209 (by omega) (by omega)⟩)⟩
  · have f304 := f0.tr f172 rfl
    show wp _ _ 200 12 [(0, .ref r0)] [] _ H167 _
    have u305 := RO_k a177
    refine wp_of e200 c200_12 (rw_aload_n (pc' := 13) (v := .ref r0) rfl rfl rfl ?_)
    have k306 : H167 r0 4 = H r0 4 := (f172 r0 4 _ g0 rfl)
    have q307 : H167 r0 4 = (rp : Int) := k306.trans qrp
    have k308 : H167 r0 5 = H r0 5 := (f172 r0 5 _ g0 rfl)
    have q309 : H167 r0 5 = (rb : Int) := k308.trans qrb
    refine wp_of e200 c200_13 (xc_V (pc' := 16) (r := r0) (as := []) (st := []) (lm_9_309) rfl rfl (Nat.le_of_ble_eq_true rfl) w171 g0 sh_42 (by decide) rfl (by decide) (u_201_o (fo := 5) (po := q) w171 g0 q307 grp q309 grb a177) (fun R310 T311 H312 p313 => ?_))
    obtain ⟨e314, w316, f317, z318, e315, b319, p320⟩ := p313
    subst e314
    subst e315
    obtain ⟨a321, a322⟩ := p320
    have f323 := f304.tr f317 rfl
    show wp _ _ 200 16 [(0, .ref r0)] [vI z318] _ H312 _
    have u324 := RO_k a322
    refine wp_of e200 c200_16 (rw_istore_n (pc' := 17) (z := z318) (L' := [(1, vI z318), (0, .ref r0)]) rfl rfl rfl ?_)
    refine wp_of e200 c200_17 (rw_aload_n (pc' := 18) (v := .ref r0) rfl rfl rfl ?_)
    refine wp_of e200 c200_18 (xg_I (pc' := 21) lf_9_75 w316 g0 sh_42 (by decide) (by decide) ty_42_9 rfl rfl (fun b325 b326 => ?_))
    refine wp_of e200 c200_21 (rw_iconst (pc' := 22) rfl ?_)
    refine wp_of e200 c200_22 (rw_icmp_ne (p1 := 26) (p2 := 25) (by decide) rfl ⟨by omega, by omega⟩ ⟨by omega, by omega⟩ (fun c327 => ?_) (fun c327 => ?_))
    · exfalso
      omega
    · have o328 : (xl6 B n q d) = (5, q, q) := by
        unfold xl6
        repeat first | rw [xs_0 (by omega)] | rw [xs_1 (by omega)] | rw [if_pos (by omega)] | rw [if_neg (by omega)]
        first | done | rfl | assumption | (exfalso; omega) | (refine Prod.ext ?_ (Prod.ext ?_ ?_) <;> (try dsimp only) <;> omega)
      have o328a : ((xl6 B n q d)).1 = 5 := by rw [o328]
      have o328b : ((xl6 B n q d)).2.1 = q := by rw [o328]
      have o328c : ((xl6 B n q d)).2.2 = q := by rw [o328]
      exact wp_return e200 c200_25 rfl ⟨rfl, w316, f323, rfl, (Or.inr ⟨by omega, RO_eq a322 (by omega) (by omega)⟩)⟩
/-! StrikeAwakeModel.readTold()V o -/
abbrev uq_200_o (r0 : Nat) (rp : Nat) (rb : Nat) (fo : Int) (po : Int) (T : wq_T) (H : wq_H) : Option Value → wq_T → wq_H → Prop := fun r T' H' => T = T' ∧ WT T H' ∧ wfr [(42, 17), (42, 18)] T H H' ∧ none = r ∧ ((RO T H' r0 fo po))
set_option maxHeartbeats 4000000 in
theorem u_200_o {kt : Nat → Option mc_E} {T : wq_T} {H : wq_H} {r0 : Nat} {rp : Nat} {rb : Nat} {fo : Int} {po : Int} (hW : WT T H) (g0 : T.2.2.2 r0 = some 42) (qrp : H r0 4 = (rp : Int)) (grp : T.2.2.2 rp = some 54) (qrb : H r0 5 = (rb : Int)) (grb : T.2.2.2 rb = some 43) (hRO_r0 : RO T H r0 fo po) : wpc kt 7 200 [.ref r0] T H (uq_200_o r0 rp rb fo po T H) := by
  refine wp_enter e200 (Nat.le_of_ble_eq_true rfl) rfl ?_
  have f0 : wfr [(42, 17), (42, 18)] T H H := wfr.rf
  show wp _ _ 200 0 [(0, .ref r0)] [] _ H _
  have u29 := RO_k hRO_r0
  refine wp_of e200 c200_0 (rw_aload_n (pc' := 1) (v := .ref r0) rfl rfl rfl ?_)
  refine wp_of e200 c200_1 (rw_aload_n (pc' := 2) (v := .ref r0) rfl rfl rfl ?_)
  refine wp_of e200 c200_2 (xg_K (pc' := 5) lf_9_166 hW g0 sh_42 (by decide) (by decide) rfl qrp rfl ?_)
  refine wp_of e200 c200_5 (xg_I (pc' := 8) lf_9_306 hW grp sh_54 (by decide) (by decide) ty_54_6 rfl rfl (fun b30 b31 => ?_))
  refine wp_of e200 c200_8 (rw_iconst (pc' := 9) rfl ?_)
  refine wp_of e200 c200_9 (xc_V (pc' := 12) (r := r0) (as := [vI (H rp 6), vI 4]) (st := []) (lm_9_228) rfl rfl (Nat.le_of_ble_eq_true rfl) hW g0 sh_42 (by decide) rfl (by decide) (u_188_o (fo := fo) (po := po) hW g0 ⟨by omega, by omega⟩ ⟨by omega, by omega⟩ qrb grb hRO_r0) (fun R32 T33 H34 p35 => ?_))
  obtain ⟨e36, e38, e37, p39⟩ := p35
  subst e36
  subst e37
  subst e38
  show wp _ _ 200 12 [(0, .ref r0)] [] _ H _
  have u41 := RO_k p39
  refine wp_of e200 c200_12 (rw_aload_n (pc' := 13) (v := .ref r0) rfl rfl rfl ?_)
  refine wp_of e200 c200_13 (xc_V (pc' := 16) (r := r0) (as := []) (st := []) (lm_9_309) rfl rfl (Nat.le_of_ble_eq_true rfl) hW g0 sh_42 (by decide) rfl (by decide) (u_201_o (fo := fo) (po := po) hW g0 qrp grp qrb grb p39) (fun R42 T43 H44 p45 => ?_))
  obtain ⟨e46, w48, f49, z50, e47, b51, p52⟩ := p45
  subst e46
  subst e47
  obtain ⟨a53, a54⟩ := p52
  have f55 := f0.tr f49 rfl
  show wp _ _ 200 16 [(0, .ref r0)] [vI z50] _ H44 _
  have u56 := RO_k a54
  refine wp_of e200 c200_16 (rw_istore_n (pc' := 17) (z := z50) (L' := [(1, vI z50), (0, .ref r0)]) rfl rfl rfl ?_)
  refine wp_of e200 c200_17 (rw_aload_n (pc' := 18) (v := .ref r0) rfl rfl rfl ?_)
  refine wp_of e200 c200_18 (xg_I (pc' := 21) lf_9_75 w48 g0 sh_42 (by decide) (by decide) ty_42_9 rfl rfl (fun b57 b58 => ?_))
  refine wp_of e200 c200_21 (rw_iconst (pc' := 22) rfl ?_)
  refine wp_of e200 c200_22 (rw_icmp_ne (p1 := 26) (p2 := 25) (by decide) rfl ⟨by omega, by omega⟩ ⟨by omega, by omega⟩ (fun c59 => ?_) (fun c59 => ?_))
  · exfalso
    omega
  · exact wp_return e200 c200_25 rfl ⟨rfl, w48, f55, rfl, (a54)⟩
/-! StrikeAwakeModel.readOffer()V k -/
abbrev uq_203_k (r0 : Nat) (rp : Nat) (rb : Nat) (B : Nat → Int) (n : Int) (q : Int) (d : xD) (T : wq_T) (H : wq_H) : Option Value → wq_T → wq_H → Prop := fun r T' H' => T = T' ∧ WT T H' ∧ wfr [(54, 7), (42, 8), (42, 9), (42, 10), (42, 11), (42, 12), (42, 13), (42, 14), (42, 15), (42, 17), (42, 18), (72, 999), (71, 999)] T H H' ∧ none = r ∧ ((((xl7 B n q d).1 = 0) ∧ ((xl7 B n q d).2.2 = (xN B n (xN B n (xN B n (xN B n (xN B n q)))))) ∧ (q ≤ (xN B n (xN B n (xN B n (xN B n (xN B n q)))))) ∧ RC T H' r0 B n (xN B n (xN B n (xN B n (xN B n (xN B n q))))) ∧ DM T H' rp r0 (xdof B n (xN B n q) d)) ∨ (((xl7 B n q d).1 ≠ 0) ∧ RO T H' r0 ((xl7 B n q d).1) ((xl7 B n q d).2.1)))
set_option maxHeartbeats 4000000 in
theorem u_203_k {kt : Nat → Option mc_E} {T : wq_T} {H : wq_H} {r0 : Nat} {rp : Nat} {rb : Nat} {B : Nat → Int} {n : Int} {q : Int} {d : xD} (hW : WT T H) (g0 : T.2.2.2 r0 = some 42) (qrp : H r0 4 = (rp : Int)) (grp : T.2.2.2 rp = some 54) (qrb : H r0 5 = (rb : Int)) (grb : T.2.2.2 rb = some 43) (p0 : xK B n q = 1) (hRC_r0 : RC T H r0 B n q) (hDM_rp : DM T H rp r0 d) : wpc kt 7 203 [.ref r0] T H (uq_203_k r0 rp rb B n q d T H) := by
  refine wp_enter e203 (Nat.le_of_ble_eq_true rfl) rfl ?_
  have f0 : wfr [(54, 7), (42, 8), (42, 9), (42, 10), (42, 11), (42, 12), (42, 13), (42, 14), (42, 15), (42, 17), (42, 18), (72, 999), (71, 999)] T H H := wfr.rf
  show wp _ _ 203 0 [(0, .ref r0)] [] _ H _
  have u144 := RC_k hRC_r0
  have u145 := DM_k hDM_rp
  have h146 : MA9 T H rp (d 1) := hDM_rp.2.2.2.1
  have h147 : MA10 T H rp (d 2) := hDM_rp.2.2.2.2.1
  have h148 : MA11 T H rp (d 3) := hDM_rp.2.2.2.2.2.1
  have h149 : MA12 T H rp (d 4) := hDM_rp.2.2.2.2.2.2.1
  have h150 : MA13 T H rp (d 5) := hDM_rp.2.2.2.2.2.2.2.1
  have h151 : MA14 T H rp (d 6) := hDM_rp.2.2.2.2.2.2.2.2.1
  have h152 : MA15 T H rp (d 7) := hDM_rp.2.2.2.2.2.2.2.2.2.1
  have h153 : MA16 T H rp (d 8) := hDM_rp.2.2.2.2.2.2.2.2.2.2.1
  have h154 : MA17 T H rp (d 9) := hDM_rp.2.2.2.2.2.2.2.2.2.2.2.1
  have h155 : MA18 T H rp (d 10) := hDM_rp.2.2.2.2.2.2.2.2.2.2.2.2.1
  have h156 : MA19 T H rp (d 11) := hDM_rp.2.2.2.2.2.2.2.2.2.2.2.2.2.1
  have h157 : MA20 T H rp (d 12) := hDM_rp.2.2.2.2.2.2.2.2.2.2.2.2.2.2.1
  have h158 : MA21 T H rp (d 13) := hDM_rp.2.2.2.2.2.2.2.2.2.2.2.2.2.2.2.1
  have h159 : MA22 T H rp (d 14) := hDM_rp.2.2.2.2.2.2.2.2.2.2.2.2.2.2.2.2.1
  have h160 : MA23 T H rp (d 15) := hDM_rp.2.2.2.2.2.2.2.2.2.2.2.2.2.2.2.2.2.1
  have h161 : MA25 T H rp (d 17) := hDM_rp.2.2.2.2.2.2.2.2.2.2.2.2.2.2.2.2.2.2.1
  have h162 : MA26 T H rp (d 16) := hDM_rp.2.2.2.2.2.2.2.2.2.2.2.2.2.2.2.2.2.2.2
  refine wp_of e203 c203_0 (rw_aload_n (pc' := 1) (v := .ref r0) rfl rfl rfl ?_)
  refine wp_of e203 c203_1 (rw_aload_n (pc' := 2) (v := .ref r0) rfl rfl rfl ?_)
  refine wp_of e203 c203_2 (xg_K (pc' := 5) lf_9_166 hW g0 sh_42 (by decide) (by decide) rfl qrp rfl ?_)
  refine wp_of e203 c203_5 (xg_I (pc' := 8) lf_9_321 hW grp sh_54 (by decide) (by decide) ty_54_7 rfl rfl (fun b163 b164 => ?_))
  refine wp_of e203 c203_8 (rw_bipush (pc' := 10) (z := 6) rfl (by decide) ?_)
  refine wp_of e203 c203_10 (xc_V (pc' := 13) (r := r0) (as := [vI (H rp 7), vI 6]) (st := []) (lm_9_228) rfl rfl (Nat.le_of_ble_eq_true rfl) hW g0 sh_42 (by decide) rfl (by decide) (u_188_k (B := B) (n := n) (q := q) hW g0 ⟨by omega, by omega⟩ ⟨by omega, by omega⟩ qrb grb (by omega) hRC_r0) (fun R165 T166 H167 p168 => ?_))
  obtain ⟨e169, w171, f172, e170, p173⟩ := p168
  subst e169
  subst e170
  rcases p173 with ⟨a174, a175⟩ | ⟨a176, a177⟩
  · have f178 := f0.tr f172 rfl
    show wp _ _ 203 13 [(0, .ref r0)] [] _ H167 _
    have u179 := RC_k a175
    refine wp_of e203 c203_13 (rw_aload_n (pc' := 14) (v := .ref r0) rfl rfl rfl ?_)
    have k180 : H167 r0 4 = H r0 4 := (f172 r0 4 _ g0 rfl)
    have q181 : H167 r0 4 = (rp : Int) := k180.trans qrp
    have k182 : H167 r0 5 = H r0 5 := (f172 r0 5 _ g0 rfl)
    have q183 : H167 r0 5 = (rb : Int) := k182.trans qrb
    have h184 : DM T H167 rp r0 d := (DM_fr hW grp f172 rfl hDM_rp)
    refine wp_of e203 c203_14 (xc_V (pc' := 17) (r := r0) (as := []) (st := []) (lm_9_309) rfl rfl (Nat.le_of_ble_eq_true rfl) w171 g0 sh_42 (by decide) rfl (by decide) (u_201_k (B := B) (n := n) (q := ((xN B n q))) (d := d) w171 g0 q181 grp q183 grb a175 h184) (fun R185 T186 H187 p188 => ?_))
    obtain ⟨e189, w191, f192, z193, e190, b194, p195⟩ := p188
    subst e189
    subst e190
    rcases p195 with ⟨a196, a197, a198, a199, a200, a201, a202, a203, a204, a205, a206⟩ | ⟨a207, a208, a209⟩
    · have f210 := f178.tr f192 rfl
      show wp _ _ 203 17 [(0, .ref r0)] [vI z193] _ H187 _
      have u211 := RC_k a206
      refine wp_of e203 c203_17 (rw_istore_n (pc' := 18) (z := z193) (L' := [(1, vI z193), (0, .ref r0)]) rfl rfl rfl ?_)
      refine wp_of e203 c203_18 (rw_aload_n (pc' := 19) (v := .ref r0) rfl rfl rfl ?_)
      refine wp_of e203 c203_19 (xg_I (pc' := 22) lf_9_75 w191 g0 sh_42 (by decide) (by decide) ty_42_9 rfl rfl (fun b212 b213 => ?_))
      refine wp_of e203 c203_22 (rw_iconst (pc' := 23) rfl ?_)
      refine wp_of e203 c203_23 (rw_icmp_ne (p1 := 27) (p2 := 26) (by decide) rfl ⟨by omega, by omega⟩ ⟨by omega, by omega⟩ (fun c214 => ?_) (fun c214 => ?_))
      · refine wp_of e203 c203_27 (rw_aload_n (pc' := 28) (v := .ref r0) rfl rfl rfl ?_)
        have k215 : H187 r0 4 = H167 r0 4 := (f192 r0 4 _ g0 rfl)
        have q216 : H187 r0 4 = (rp : Int) := k215.trans q181
        refine wp_of e203 c203_28 (xg_K (pc' := 31) lf_9_166 w191 g0 sh_42 (by decide) (by decide) rfl q216 rfl ?_)
        refine wp_of e203 c203_31 (xg_R (pc' := 34) lf_9_324 w191 grp sh_54 (by decide) (by decide) ty_54_25 rfl rfl (fun r217 q218 g219 => ?_))
        refine wp_of e203 c203_34 (rw_aload_n (pc' := 35) (v := .ref r0) rfl rfl rfl ?_)
        refine wp_of e203 c203_35 (xg_K (pc' := 38) lf_9_166 w191 g0 sh_42 (by decide) (by decide) rfl q216 rfl ?_)
        have k220 : H187 rp 7 = H rp 7 := ((f192 rp 7 _ grp rfl).trans (f172 rp 7 _ grp rfl))
        refine wp_of e203 c203_38 (xg_I (pc' := 41) lf_9_321 w191 grp sh_54 (by decide) (by decide) ty_54_7 rfl rfl (fun b221 b222 => ?_))
        refine wp_of e203 c203_41 (rw_iload_n (pc' := 42) (z := z193) rfl rfl ?_)
        have h223 : MA25 T H187 rp (d 17) := (MA25_fr w171 grp f192 rfl (MA25_fr hW grp f172 rfl h161))
        refine wp_of e203 c203_42 (xs_I (pc' := 43) w191 g219 (by decide) sh_71 (by decide) (ty_71 _) (by omega) (by omega) ⟨by omega, by omega⟩ (by omega) (by omega) rfl (fun H224 e225 w226 => ?_))
        have f227 := f210.put' e225 g219 rfl
        have h228 : MA25 T H224 rp (xdof B n (xN B n q) d 17) := MA_put h223 q218 grp g219 (by decide) e225 ((xdof_e (k := ((H187 rp 7).toNat)) (by omega)).1.trans (by omega)) (xdof_e (k := ((H187 rp 7).toNat)) (by omega)).2
        refine wp_of e203 c203_43 (rw_aload_n (pc' := 44) (v := .ref r0) rfl rfl rfl ?_)
        have k229 : H224 r0 4 = H187 r0 4 := (wq_u_t e225 g219 g0 rfl 4)
        have q230 : H224 r0 4 = (rp : Int) := k229.trans q216
        refine wp_of e203 c203_44 (xg_K (pc' := 47) lf_9_166 w226 g0 sh_42 (by decide) (by decide) rfl q230 rfl ?_)
        refine wp_of e203 c203_47 (xg_R (pc' := 50) lf_9_327 w226 grp sh_54 (by decide) (by decide) ty_54_26 rfl rfl (fun r231 q232 g233 => ?_))
        refine wp_of e203 c203_50 (rw_aload_n (pc' := 51) (v := .ref r0) rfl rfl rfl ?_)
        refine wp_of e203 c203_51 (xg_K (pc' := 54) lf_9_166 w226 g0 sh_42 (by decide) (by decide) rfl q230 rfl ?_)
        have k234 : H224 rp 7 = H187 rp 7 := (wq_u_t e225 g219 grp rfl 7)
        refine wp_of e203 c203_54 (xg_I (pc' := 57) lf_9_321 w226 grp sh_54 (by decide) (by decide) ty_54_7 rfl rfl (fun b235 b236 => ?_))
        refine wp_of e203 c203_57 (rw_aload_n (pc' := 58) (v := .ref r0) rfl rfl rfl ?_)
        have k237 : H224 r0 17 = H187 r0 17 := (wq_u_t e225 g219 g0 rfl 17)
        refine wp_of e203 c203_58 (xg_I (pc' := 61) lf_9_300 w226 g0 sh_42 (by decide) (by decide) ty_42_17 rfl rfl (fun b238 b239 => ?_))
        refine wp_of e203 c203_61 (rw_aload_n (pc' := 62) (v := .ref r0) rfl rfl rfl ?_)
        have k240 : H224 r0 18 = H187 r0 18 := (wq_u_t e225 g219 g0 rfl 18)
        refine wp_of e203 c203_62 (xg_I (pc' := 65) lf_9_303 w226 g0 sh_42 (by decide) (by decide) ty_42_18 rfl rfl (fun b241 b242 => ?_))
        refine wp_of e203 c203_65 (xc_S (pc' := 68) (as := [vI (H224 r0 17), vI (H224 r0 18)]) (st := [vI (H224 rp 7), .ref r231]) (lm_9_318) rfl rfl (Nat.le_of_ble_eq_true rfl) rfl (by decide) (u_202 (lo := (xV B n (xN B n (xN B n q)))) (hi := (xV B n (xN B n (xN B n (xN B n (xN B n q)))))) w226 ⟨by omega, by omega⟩ ⟨by omega, by omega⟩ (by omega) (by omega) (by omega)) (fun R243 T244 H245 p246 => ?_))
        obtain ⟨e247, e249, z250, e248, b251, p252⟩ := p246
        subst e247
        subst e248
        subst e249
        show wp _ _ 203 68 [(1, vI z193), (0, .ref r0)] [vI z250, vI (H224 rp 7), .ref r231] _ H224 _
        have h254 : MA26 T H224 rp (d 16) := (MA26_fr w191 grp ((wfr.rf (l := [(71, 999)])).put' e225 g219 rfl) rfl (MA26_fr w171 grp f192 rfl (MA26_fr hW grp f172 rfl h162)))
        refine wp_of e203 c203_68 (xs_I (pc' := 69) w226 g233 (by decide) sh_72 (by decide) (ty_72 _) (by omega) (by omega) ⟨by omega, by omega⟩ (by omega) (by omega) rfl (fun H255 e256 w257 => ?_))
        have f258 := f227.put' e256 g233 rfl
        have h259 : MA26 T H255 rp (xdof B n (xN B n q) d 16) := MA_put h254 q232 grp g233 (by decide) e256 ((xdof_c (k := ((H224 rp 7).toNat)) (by omega)).1.trans (by omega)) (xdof_c (k := ((H224 rp 7).toNat)) (by omega)).2
        refine wp_of e203 c203_69 (rw_aload_n (pc' := 70) (v := .ref r0) rfl rfl rfl ?_)
        have k260 : H255 r0 4 = H224 r0 4 := (wq_u_t e256 g233 g0 rfl 4)
        have q261 : H255 r0 4 = (rp : Int) := k260.trans q230
        refine wp_of e203 c203_70 (xg_K (pc' := 73) lf_9_166 w257 g0 sh_42 (by decide) (by decide) rfl q261 rfl ?_)
        refine wp_of e203 c203_73 (rw_dup (pc' := 74) rfl rfl ?_)
        have k262 : H255 rp 7 = H224 rp 7 := (wq_u_t e256 g233 grp rfl 7)
        refine wp_of e203 c203_74 (xg_I (pc' := 77) lf_9_321 w257 grp sh_54 (by decide) (by decide) ty_54_7 rfl rfl (fun b263 b264 => ?_))
        refine wp_of e203 c203_77 (rw_iconst (pc' := 78) rfl ?_)
        refine wp_of e203 c203_78 (rw_iadd (pc' := 79) rfl ?_)
        refine wp_of e203 c203_79 (xp_I (pc' := 82) lf_9_321 w257 grp sh_54 (by decide) (by decide) ty_54_7 rfl rfl (by omega) (by omega) ⟨by omega, by omega⟩ rfl (fun H265 e266 w267 => ?_))
        have f268 := f258.put' e266 grp rfl
        have k269 : H265 rp 7 = (H255 rp 7) + 1 := wq_u_s e266
        have k270 : H265 rp 0 = H rp 0 := ((wq_u_j e266 rfl).trans ((wq_u_t e256 g233 grp rfl 0).trans ((wq_u_t e225 g219 grp rfl 0).trans ((f192 rp 0 _ grp rfl).trans (f172 rp 0 _ grp rfl)))))
        have k271 : H265 rp 1 = H rp 1 := ((wq_u_j e266 rfl).trans ((wq_u_t e256 g233 grp rfl 1).trans ((wq_u_t e225 g219 grp rfl 1).trans ((f192 rp 1 _ grp rfl).trans (f172 rp 1 _ grp rfl)))))
        have k272 : H265 rp 2 = H rp 2 := ((wq_u_j e266 rfl).trans ((wq_u_t e256 g233 grp rfl 2).trans ((wq_u_t e225 g219 grp rfl 2).trans ((f192 rp 2 _ grp rfl).trans (f172 rp 2 _ grp rfl)))))
        have k273 : H265 rp 3 = H rp 3 := ((wq_u_j e266 rfl).trans ((wq_u_t e256 g233 grp rfl 3).trans ((wq_u_t e225 g219 grp rfl 3).trans ((f192 rp 3 _ grp rfl).trans (f172 rp 3 _ grp rfl)))))
        have k274 : H265 rp 4 = H rp 4 := ((wq_u_j e266 rfl).trans ((wq_u_t e256 g233 grp rfl 4).trans ((wq_u_t e225 g219 grp rfl 4).trans ((f192 rp 4 _ grp rfl).trans (f172 rp 4 _ grp rfl)))))
        have k275 : H265 rp 5 = H rp 5 := ((wq_u_j e266 rfl).trans ((wq_u_t e256 g233 grp rfl 5).trans ((wq_u_t e225 g219 grp rfl 5).trans ((f192 rp 5 _ grp rfl).trans (f172 rp 5 _ grp rfl)))))
        have k276 : H265 rp 6 = H rp 6 := ((wq_u_j e266 rfl).trans ((wq_u_t e256 g233 grp rfl 6).trans ((wq_u_t e225 g219 grp rfl 6).trans ((f192 rp 6 _ grp rfl).trans (f172 rp 6 _ grp rfl)))))
        have k277 : H265 rp 8 = H rp 8 := ((wq_u_j e266 rfl).trans ((wq_u_t e256 g233 grp rfl 8).trans ((wq_u_t e225 g219 grp rfl 8).trans ((f192 rp 8 _ grp rfl).trans (f172 rp 8 _ grp rfl)))))
        have k278 : H265 r0 16 = H r0 16 := ((wq_u_t e266 grp g0 rfl 16).trans ((wq_u_t e256 g233 g0 rfl 16).trans ((wq_u_t e225 g219 g0 rfl 16).trans ((f192 r0 16 _ g0 rfl).trans (f172 r0 16 _ g0 rfl)))))
        have o279 : (xl7 B n q d) = (0, ((xN B n q)), (xN B n (xN B n (xN B n (xN B n ((xN B n q))))))) := by
          unfold xl7
          repeat first | rw [xs_0 (by omega)] | rw [xs_1 (by omega)] | rw [if_pos (by omega)] | rw [if_neg (by omega)]
          first | done | rfl | assumption | (exfalso; omega) | (refine Prod.ext ?_ (Prod.ext ?_ ?_) <;> (try dsimp only) <;> omega)
        have o279a : ((xl7 B n q d)).1 = 0 := by rw [o279]
        have o279b : ((xl7 B n q d)).2.1 = ((xN B n q)) := by rw [o279]
        have o279c : ((xl7 B n q d)).2.2 = (xN B n (xN B n (xN B n (xN B n ((xN B n q)))))) := by rw [o279]
        have _l := @xdof_v B n (xN B n q) d
        have h280 : RC T H265 r0 B n (xN B n (xN B n (xN B n (xN B n ((xN B n q)))))) := (RC_fr w257 g0 ((wfr.rf (l := [(54, 7)])).put' e266 grp rfl) rfl (RC_fr w226 g0 ((wfr.rf (l := [(72, 999)])).put' e256 g233 rfl) rfl (RC_fr w191 g0 ((wfr.rf (l := [(71, 999)])).put' e225 g219 rfl) rfl a206)))
        have h281 : MA9 T H265 rp (d 1) := (MA9_fr w257 grp ((wfr.rf (l := [(54, 7)])).put' e266 grp rfl) rfl (MA9_fr w226 grp ((wfr.rf (l := [(72, 999)])).put' e256 g233 rfl) rfl (MA9_fr w191 grp ((wfr.rf (l := [(71, 999)])).put' e225 g219 rfl) rfl (MA9_fr w171 grp f192 rfl (MA9_fr hW grp f172 rfl h146)))))
        have h282 : MA10 T H265 rp (d 2) := (MA10_fr w257 grp ((wfr.rf (l := [(54, 7)])).put' e266 grp rfl) rfl (MA10_fr w226 grp ((wfr.rf (l := [(72, 999)])).put' e256 g233 rfl) rfl (MA10_fr w191 grp ((wfr.rf (l := [(71, 999)])).put' e225 g219 rfl) rfl (MA10_fr w171 grp f192 rfl (MA10_fr hW grp f172 rfl h147)))))
        have h283 : MA11 T H265 rp (d 3) := (MA11_fr w257 grp ((wfr.rf (l := [(54, 7)])).put' e266 grp rfl) rfl (MA11_fr w226 grp ((wfr.rf (l := [(72, 999)])).put' e256 g233 rfl) rfl (MA11_fr w191 grp ((wfr.rf (l := [(71, 999)])).put' e225 g219 rfl) rfl (MA11_fr w171 grp f192 rfl (MA11_fr hW grp f172 rfl h148)))))
        have h284 : MA12 T H265 rp (d 4) := (MA12_fr w257 grp ((wfr.rf (l := [(54, 7)])).put' e266 grp rfl) rfl (MA12_fr w226 grp ((wfr.rf (l := [(72, 999)])).put' e256 g233 rfl) rfl (MA12_fr w191 grp ((wfr.rf (l := [(71, 999)])).put' e225 g219 rfl) rfl (MA12_fr w171 grp f192 rfl (MA12_fr hW grp f172 rfl h149)))))
        have h285 : MA13 T H265 rp (d 5) := (MA13_fr w257 grp ((wfr.rf (l := [(54, 7)])).put' e266 grp rfl) rfl (MA13_fr w226 grp ((wfr.rf (l := [(72, 999)])).put' e256 g233 rfl) rfl (MA13_fr w191 grp ((wfr.rf (l := [(71, 999)])).put' e225 g219 rfl) rfl (MA13_fr w171 grp f192 rfl (MA13_fr hW grp f172 rfl h150)))))
        have h286 : MA14 T H265 rp (d 6) := (MA14_fr w257 grp ((wfr.rf (l := [(54, 7)])).put' e266 grp rfl) rfl (MA14_fr w226 grp ((wfr.rf (l := [(72, 999)])).put' e256 g233 rfl) rfl (MA14_fr w191 grp ((wfr.rf (l := [(71, 999)])).put' e225 g219 rfl) rfl (MA14_fr w171 grp f192 rfl (MA14_fr hW grp f172 rfl h151)))))
        have h287 : MA15 T H265 rp (d 7) := (MA15_fr w257 grp ((wfr.rf (l := [(54, 7)])).put' e266 grp rfl) rfl (MA15_fr w226 grp ((wfr.rf (l := [(72, 999)])).put' e256 g233 rfl) rfl (MA15_fr w191 grp ((wfr.rf (l := [(71, 999)])).put' e225 g219 rfl) rfl (MA15_fr w171 grp f192 rfl (MA15_fr hW grp f172 rfl h152)))))
        have h288 : MA16 T H265 rp (d 8) := (MA16_fr w257 grp ((wfr.rf (l := [(54, 7)])).put' e266 grp rfl) rfl (MA16_fr w226 grp ((wfr.rf (l := [(72, 999)])).put' e256 g233 rfl) rfl (MA16_fr w191 grp ((wfr.rf (l := [(71, 999)])).put' e225 g219 rfl) rfl (MA16_fr w171 grp f192 rfl (MA16_fr hW grp f172 rfl h153)))))
        have h289 : MA17 T H265 rp (d 9) := (MA17_fr w257 grp ((wfr.rf (l := [(54, 7)])).put' e266 grp rfl) rfl (MA17_fr w226 grp ((wfr.rf (l := [(72, 999)])).put' e256 g233 rfl) rfl (MA17_fr w191 grp ((wfr.rf (l := [(71, 999)])).put' e225 g219 rfl) rfl (MA17_fr w171 grp f192 rfl (MA17_fr hW grp f172 rfl h154)))))
        have h290 : MA18 T H265 rp (d 10) := (MA18_fr w257 grp ((wfr.rf (l := [(54, 7)])).put' e266 grp rfl) rfl (MA18_fr w226 grp ((wfr.rf (l := [(72, 999)])).put' e256 g233 rfl) rfl (MA18_fr w191 grp ((wfr.rf (l := [(71, 999)])).put' e225 g219 rfl) rfl (MA18_fr w171 grp f192 rfl (MA18_fr hW grp f172 rfl h155)))))
        have h291 : MA19 T H265 rp (d 11) := (MA19_fr w257 grp ((wfr.rf (l := [(54, 7)])).put' e266 grp rfl) rfl (MA19_fr w226 grp ((wfr.rf (l := [(72, 999)])).put' e256 g233 rfl) rfl (MA19_fr w191 grp ((wfr.rf (l := [(71, 999)])).put' e225 g219 rfl) rfl (MA19_fr w171 grp f192 rfl (MA19_fr hW grp f172 rfl h156)))))
        have h292 : MA20 T H265 rp (d 12) := (MA20_fr w257 grp ((wfr.rf (l := [(54, 7)])).put' e266 grp rfl) rfl (MA20_fr w226 grp ((wfr.rf (l := [(72, 999)])).put' e256 g233 rfl) rfl (MA20_fr w191 grp ((wfr.rf (l := [(71, 999)])).put' e225 g219 rfl) rfl (MA20_fr w171 grp f192 rfl (MA20_fr hW grp f172 rfl h157)))))
        have h293 : MA21 T H265 rp (d 13) := (MA21_fr w257 grp ((wfr.rf (l := [(54, 7)])).put' e266 grp rfl) rfl (MA21_fr w226 grp ((wfr.rf (l := [(72, 999)])).put' e256 g233 rfl) rfl (MA21_fr w191 grp ((wfr.rf (l := [(71, 999)])).put' e225 g219 rfl) rfl (MA21_fr w171 grp f192 rfl (MA21_fr hW grp f172 rfl h158)))))
        have h294 : MA22 T H265 rp (d 14) := (MA22_fr w257 grp ((wfr.rf (l := [(54, 7)])).put' e266 grp rfl) rfl (MA22_fr w226 grp ((wfr.rf (l := [(72, 999)])).put' e256 g233 rfl) rfl (MA22_fr w191 grp ((wfr.rf (l := [(71, 999)])).put' e225 g219 rfl) rfl (MA22_fr w171 grp f192 rfl (MA22_fr hW grp f172 rfl h159)))))
        have h295 : MA23 T H265 rp (d 15) := (MA23_fr w257 grp ((wfr.rf (l := [(54, 7)])).put' e266 grp rfl) rfl (MA23_fr w226 grp ((wfr.rf (l := [(72, 999)])).put' e256 g233 rfl) rfl (MA23_fr w191 grp ((wfr.rf (l := [(71, 999)])).put' e225 g219 rfl) rfl (MA23_fr w171 grp f192 rfl (MA23_fr hW grp f172 rfl h160)))))
        have h296 : MA25 T H265 rp (xdof B n (xN B n q) d 17) := (MA25_fr w257 grp ((wfr.rf (l := [(54, 7)])).put' e266 grp rfl) rfl (MA25_fr w226 grp ((wfr.rf (l := [(72, 999)])).put' e256 g233 rfl) rfl h228))
        have h297 : MA26 T H265 rp (xdof B n (xN B n q) d 16) := (MA26_fr w257 grp ((wfr.rf (l := [(54, 7)])).put' e266 grp rfl) rfl h259)
        exact wp_return e203 c203_82 rfl ⟨rfl, w267, f268, rfl, (Or.inl ⟨by omega, by omega, by omega, h280, DM_mk hDM_rp.1 ⟨by omega, by omega, by omega, by omega, by omega, by omega, by omega, by omega, by omega, by omega, by omega, by omega⟩ (xdP_cg hDM_rp.2.2.1 (fun i h1 h2 => by unfold xdof; rw [wq_u_row (by omega), wq_u_row (by omega), wq_u_row (by omega)])) h281 h282 h283 h284 h285 h286 h287 h288 h289 h290 h291 h292 h293 h294 h295 h296 h297 ⟨(by unfold xdof; rw [wq_u_row (by decide), wq_u_row (by decide), wq_u_row (by decide)]), (by unfold xdof; rw [wq_u_row (by decide), wq_u_row (by decide), wq_u_row (by decide)]), (by unfold xdof; rw [wq_u_row (by decide), wq_u_row (by decide), wq_u_row (by decide)]), (by unfold xdof; rw [wq_u_row (by decide), wq_u_row (by decide), wq_u_row (by decide)]), (by unfold xdof; rw [wq_u_row (by decide), wq_u_row (by decide), wq_u_row (by decide)]), (by unfold xdof; rw [wq_u_row (by decide), wq_u_row (by decide), wq_u_row (by decide)]), (by unfold xdof; rw [wq_u_row (by decide), wq_u_row (by decide), wq_u_row (by decide)]), (by unfold xdof; rw [wq_u_row (by decide), wq_u_row (by decide), wq_u_row (by decide)]), (by unfold xdof; rw [wq_u_row (by decide), wq_u_row (by decide), wq_u_row (by decide)]), (by unfold xdof; rw [wq_u_row (by decide), wq_u_row (by decide), wq_u_row (by decide)]), (by unfold xdof; rw [wq_u_row (by decide), wq_u_row (by decide), wq_u_row (by decide)]), (by unfold xdof; rw [wq_u_row (by decide), wq_u_row (by decide), wq_u_row (by decide)]), (by unfold xdof; rw [wq_u_row (by decide), wq_u_row (by decide), wq_u_row (by decide)]), (by unfold xdof; rw [wq_u_row (by decide), wq_u_row (by decide), wq_u_row (by decide)]), (by unfold xdof; rw [wq_u_row (by decide), wq_u_row (by decide), wq_u_row (by decide)]), rfl, rfl⟩⟩)⟩
      · exfalso
        omega
    · have f298 := f178.tr f192 rfl
      show wp _ _ 203 17 [(0, .ref r0)] [vI z193] _ H187 _
      have u299 := RO_k a209
      refine wp_of e203 c203_17 (rw_istore_n (pc' := 18) (z := z193) (L' := [(1, vI z193), (0, .ref r0)]) rfl rfl rfl ?_)
      refine wp_of e203 c203_18 (rw_aload_n (pc' := 19) (v := .ref r0) rfl rfl rfl ?_)
      refine wp_of e203 c203_19 (xg_I (pc' := 22) lf_9_75 w191 g0 sh_42 (by decide) (by decide) ty_42_9 rfl rfl (fun b300 b301 => ?_))
      refine wp_of e203 c203_22 (rw_iconst (pc' := 23) rfl ?_)
      refine wp_of e203 c203_23 (rw_icmp_ne (p1 := 27) (p2 := 26) (by decide) rfl ⟨by omega, by omega⟩ ⟨by omega, by omega⟩ (fun c302 => ?_) (fun c302 => ?_))
      · exfalso
        omega
      · have o303 : (xl7 B n q d) = ((xtl B n ((xN B n q)) d).1, (xtl B n ((xN B n q)) d).2.1, (xtl B n ((xN B n q)) d).2.2) := by
          unfold xl7
          repeat first | rw [xs_0 (by omega)] | rw [xs_1 (by omega)] | rw [if_pos (by omega)] | rw [if_neg (by omega)]
          first | done | rfl | assumption | (exfalso; omega) | (refine Prod.ext ?_ (Prod.ext ?_ ?_) <;> (try dsimp only) <;> omega)
        have o303a : ((xl7 B n q d)).1 = (xtl B n ((xN B n q)) d).1 := by rw [o303]
        have o303b : ((xl7 B n q d)).2.1 = (xtl B n ((xN B n q)) d).2.1 := by rw [o303]
        have o303c : ((xl7 B n q d)).2.2 = (xtl B n ((xN B n q)) d).2.2 := by rw [o303]
        exact wp_return e203 c203_26 rfl ⟨rfl, w191, f298, rfl, (Or.inr ⟨by omega, RO_eq a209 (by omega) (by omega)⟩)⟩
  · have f304 := f0.tr f172 rfl
    show wp _ _ 203 13 [(0, .ref r0)] [] _ H167 _
    have u305 := RO_k a177
    refine wp_of e203 c203_13 (rw_aload_n (pc' := 14) (v := .ref r0) rfl rfl rfl ?_)
    have k306 : H167 r0 4 = H r0 4 := (f172 r0 4 _ g0 rfl)
    have q307 : H167 r0 4 = (rp : Int) := k306.trans qrp
    have k308 : H167 r0 5 = H r0 5 := (f172 r0 5 _ g0 rfl)
    have q309 : H167 r0 5 = (rb : Int) := k308.trans qrb
    refine wp_of e203 c203_14 (xc_V (pc' := 17) (r := r0) (as := []) (st := []) (lm_9_309) rfl rfl (Nat.le_of_ble_eq_true rfl) w171 g0 sh_42 (by decide) rfl (by decide) (u_201_o (fo := 5) (po := q) w171 g0 q307 grp q309 grb a177) (fun R310 T311 H312 p313 => ?_))
    obtain ⟨e314, w316, f317, z318, e315, b319, p320⟩ := p313
    subst e314
    subst e315
    obtain ⟨a321, a322⟩ := p320
    have f323 := f304.tr f317 rfl
    show wp _ _ 203 17 [(0, .ref r0)] [vI z318] _ H312 _
    have u324 := RO_k a322
    refine wp_of e203 c203_17 (rw_istore_n (pc' := 18) (z := z318) (L' := [(1, vI z318), (0, .ref r0)]) rfl rfl rfl ?_)
    refine wp_of e203 c203_18 (rw_aload_n (pc' := 19) (v := .ref r0) rfl rfl rfl ?_)
    refine wp_of e203 c203_19 (xg_I (pc' := 22) lf_9_75 w316 g0 sh_42 (by decide) (by decide) ty_42_9 rfl rfl (fun b325 b326 => ?_))
    refine wp_of e203 c203_22 (rw_iconst (pc' := 23) rfl ?_)
    refine wp_of e203 c203_23 (rw_icmp_ne (p1 := 27) (p2 := 26) (by decide) rfl ⟨by omega, by omega⟩ ⟨by omega, by omega⟩ (fun c327 => ?_) (fun c327 => ?_))
    · exfalso
      omega
    · have o328 : (xl7 B n q d) = (5, q, q) := by
        unfold xl7
        repeat first | rw [xs_0 (by omega)] | rw [xs_1 (by omega)] | rw [if_pos (by omega)] | rw [if_neg (by omega)]
        first | done | rfl | assumption | (exfalso; omega) | (refine Prod.ext ?_ (Prod.ext ?_ ?_) <;> (try dsimp only) <;> omega)
      have o328a : ((xl7 B n q d)).1 = 5 := by rw [o328]
      have o328b : ((xl7 B n q d)).2.1 = q := by rw [o328]
      have o328c : ((xl7 B n q d)).2.2 = q := by rw [o328]
      exact wp_return e203 c203_26 rfl ⟨rfl, w316, f323, rfl, (Or.inr ⟨by omega, RO_eq a322 (by omega) (by omega)⟩)⟩
/-! StrikeAwakeModel.readOffer()V o -/
abbrev uq_203_o (r0 : Nat) (rp : Nat) (rb : Nat) (fo : Int) (po : Int) (T : wq_T) (H : wq_H) : Option Value → wq_T → wq_H → Prop := fun r T' H' => T = T' ∧ WT T H' ∧ wfr [(42, 17), (42, 18)] T H H' ∧ none = r ∧ ((RO T H' r0 fo po))
set_option maxHeartbeats 4000000 in
theorem u_203_o {kt : Nat → Option mc_E} {T : wq_T} {H : wq_H} {r0 : Nat} {rp : Nat} {rb : Nat} {fo : Int} {po : Int} (hW : WT T H) (g0 : T.2.2.2 r0 = some 42) (qrp : H r0 4 = (rp : Int)) (grp : T.2.2.2 rp = some 54) (qrb : H r0 5 = (rb : Int)) (grb : T.2.2.2 rb = some 43) (hRO_r0 : RO T H r0 fo po) : wpc kt 7 203 [.ref r0] T H (uq_203_o r0 rp rb fo po T H) := by
  refine wp_enter e203 (Nat.le_of_ble_eq_true rfl) rfl ?_
  have f0 : wfr [(42, 17), (42, 18)] T H H := wfr.rf
  show wp _ _ 203 0 [(0, .ref r0)] [] _ H _
  have u29 := RO_k hRO_r0
  refine wp_of e203 c203_0 (rw_aload_n (pc' := 1) (v := .ref r0) rfl rfl rfl ?_)
  refine wp_of e203 c203_1 (rw_aload_n (pc' := 2) (v := .ref r0) rfl rfl rfl ?_)
  refine wp_of e203 c203_2 (xg_K (pc' := 5) lf_9_166 hW g0 sh_42 (by decide) (by decide) rfl qrp rfl ?_)
  refine wp_of e203 c203_5 (xg_I (pc' := 8) lf_9_321 hW grp sh_54 (by decide) (by decide) ty_54_7 rfl rfl (fun b30 b31 => ?_))
  refine wp_of e203 c203_8 (rw_bipush (pc' := 10) (z := 6) rfl (by decide) ?_)
  refine wp_of e203 c203_10 (xc_V (pc' := 13) (r := r0) (as := [vI (H rp 7), vI 6]) (st := []) (lm_9_228) rfl rfl (Nat.le_of_ble_eq_true rfl) hW g0 sh_42 (by decide) rfl (by decide) (u_188_o (fo := fo) (po := po) hW g0 ⟨by omega, by omega⟩ ⟨by omega, by omega⟩ qrb grb hRO_r0) (fun R32 T33 H34 p35 => ?_))
  obtain ⟨e36, e38, e37, p39⟩ := p35
  subst e36
  subst e37
  subst e38
  show wp _ _ 203 13 [(0, .ref r0)] [] _ H _
  have u41 := RO_k p39
  refine wp_of e203 c203_13 (rw_aload_n (pc' := 14) (v := .ref r0) rfl rfl rfl ?_)
  refine wp_of e203 c203_14 (xc_V (pc' := 17) (r := r0) (as := []) (st := []) (lm_9_309) rfl rfl (Nat.le_of_ble_eq_true rfl) hW g0 sh_42 (by decide) rfl (by decide) (u_201_o (fo := fo) (po := po) hW g0 qrp grp qrb grb p39) (fun R42 T43 H44 p45 => ?_))
  obtain ⟨e46, w48, f49, z50, e47, b51, p52⟩ := p45
  subst e46
  subst e47
  obtain ⟨a53, a54⟩ := p52
  have f55 := f0.tr f49 rfl
  show wp _ _ 203 17 [(0, .ref r0)] [vI z50] _ H44 _
  have u56 := RO_k a54
  refine wp_of e203 c203_17 (rw_istore_n (pc' := 18) (z := z50) (L' := [(1, vI z50), (0, .ref r0)]) rfl rfl rfl ?_)
  refine wp_of e203 c203_18 (rw_aload_n (pc' := 19) (v := .ref r0) rfl rfl rfl ?_)
  refine wp_of e203 c203_19 (xg_I (pc' := 22) lf_9_75 w48 g0 sh_42 (by decide) (by decide) ty_42_9 rfl rfl (fun b57 b58 => ?_))
  refine wp_of e203 c203_22 (rw_iconst (pc' := 23) rfl ?_)
  refine wp_of e203 c203_23 (rw_icmp_ne (p1 := 27) (p2 := 26) (by decide) rfl ⟨by omega, by omega⟩ ⟨by omega, by omega⟩ (fun c59 => ?_) (fun c59 => ?_))
  · exfalso
    omega
  · exact wp_return e203 c203_26 rfl ⟨rfl, w48, f55, rfl, (a54)⟩
