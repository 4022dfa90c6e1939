/-! methods of the reference (own work, written by wip/gen2/sx.py) -/
/-! StrikeAwakeModel.done(I)I -/
theorem e209 : wq_en 209 = some (9, 2, false, some FieldType.int) := rfl
theorem c209_0 : mc_cd 209 0 = some (.aload_n 0, 1) := by decide +kernel
theorem c209_1 : mc_cd 209 1 = some (.iconst 0, 1) := by decide +kernel
theorem c209_2 : mc_cd 209 2 = some (.putfield 51, 3) := by decide +kernel
theorem c209_5 : mc_cd 209 5 = some (.aload_n 0, 1) := by decide +kernel
theorem c209_6 : mc_cd 209 6 = some (.iconst (-1), 1) := by decide +kernel
theorem c209_7 : mc_cd 209 7 = some (.putfield 9, 3) := by decide +kernel
theorem c209_10 : mc_cd 209 10 = some (.iload_n 1, 1) := by decide +kernel
theorem c209_11 : mc_cd 209 11 = some (.ireturn, 1) := by decide +kernel
abbrev q_209 (r0 : Nat) (a1 : Int) (T : wq_T) (H : wq_H) : Option Value → wq_T → wq_H → Prop := fun r T' H' => T = T' ∧ WT T H' ∧ wfr [(42, 1), (42, 2)] T H H' ∧ ∃ z : Int, some (vI z) = r ∧ ((-2147483648) ≤ z ∧ z ≤ 2147483647)
set_option maxHeartbeats 4000000 in
theorem s_209 {kt : Nat → Option mc_E} {T : wq_T} {H : wq_H} {r0 : Nat} {a1 : Int} (hW : WT T H) (g0 : T.2.2.2 r0 = some 42) (i1 : (-2147483648) ≤ a1 ∧ a1 ≤ 2147483647) : wpc kt 1 209 [.ref r0, vI a1] T H (q_209 r0 a1 T H) := by
  refine wp_enter e209 (Nat.le_of_ble_eq_true rfl) rfl ?_
  have f0 : wfr [(42, 1), (42, 2)] T H H := wfr.rf
  show wp _ _ 209 0 [(0, .ref r0), (1, vI a1)] [] _ H _
  refine wp_of e209 c209_0 (rw_aload_n (pc' := 1) (v := .ref r0) rfl rfl rfl ?_)
  refine wp_of e209 c209_1 (rw_iconst (pc' := 2) rfl ?_)
  refine wp_of e209 c209_2 (xp_I (pc' := 5) lf_9_51 hW g0 sh_42 (by decide) (by decide) ty_42_1 rfl rfl (by omega) (by omega) ⟨by omega, by omega⟩ rfl (fun H125106 e125107 w125108 => ?_))
  have f125109 := f0.put' e125107 g0 rfl
  have k125110 : H125106 r0 1 = 0 := wq_u_s e125107
  refine wp_of e209 c209_5 (rw_aload_n (pc' := 6) (v := .ref r0) rfl rfl rfl ?_)
  refine wp_of e209 c209_6 (rw_iconst (pc' := 7) rfl ?_)
  refine wp_of e209 c209_7 (xp_I (pc' := 10) lf_9_9 w125108 g0 sh_42 (by decide) (by decide) ty_42_2 rfl rfl (by omega) (by omega) ⟨by omega, by omega⟩ rfl (fun H125111 e125112 w125113 => ?_))
  have f125114 := f125109.put' e125112 g0 rfl
  have k125115 : H125111 r0 2 = -1 := wq_u_s e125112
  refine wp_of e209 c209_10 (rw_iload_n (pc' := 11) (z := a1) rfl rfl ?_)
  exact wp_ireturn e209 c209_11 rfl ⟨rfl, w125113, f125114, a1, rfl, ⟨by omega, by omega⟩⟩
/-! StrikeAwakeModel.fault()I -/
theorem e210 : wq_en 210 = some (9, 1, false, some FieldType.int) := rfl
theorem c210_0 : mc_cd 210 0 = some (.aload_n 0, 1) := by decide +kernel
theorem c210_1 : mc_cd 210 1 = some (.iconst 0, 1) := by decide +kernel
theorem c210_2 : mc_cd 210 2 = some (.putfield 48, 3) := by decide +kernel
theorem c210_5 : mc_cd 210 5 = some (.aload_n 0, 1) := by decide +kernel
theorem c210_6 : mc_cd 210 6 = some (.getfield 104, 3) := by decide +kernel
theorem c210_9 : mc_cd 210 9 = some (.ireturn, 1) := by decide +kernel
abbrev q_210 (r0 : Nat) (T : wq_T) (H : wq_H) : Option Value → wq_T → wq_H → Prop := fun r T' H' => T = T' ∧ WT T H' ∧ wfr [(42, 0)] T H H' ∧ ∃ z : Int, some (vI z) = r ∧ ((-2147483648) ≤ z ∧ z ≤ 2147483647) ∧ (wKI H' r0 = 1)
set_option maxHeartbeats 4000000 in
theorem s_210 {kt : Nat → Option mc_E} {T : wq_T} {H : wq_H} {r0 : Nat} (hW : WT T H) (g0 : T.2.2.2 r0 = some 42) (p0 : wKI H r0 = 1) : wpc kt 1 210 [.ref r0] T H (q_210 r0 T H) := by
  refine wp_enter e210 (Nat.le_of_ble_eq_true rfl) rfl ?_
  have f0 : wfr [(42, 0)] T H H := wfr.rf
  show wp _ _ 210 0 [(0, .ref r0)] [] _ H _
  refine wp_of e210 c210_0 (rw_aload_n (pc' := 1) (v := .ref r0) rfl rfl rfl ?_)
  refine wp_of e210 c210_1 (rw_iconst (pc' := 2) rfl ?_)
  refine wp_of e210 c210_2 (xp_I (pc' := 5) lf_9_48 hW g0 sh_42 (by decide) (by decide) ty_42_0 rfl rfl (by omega) (by omega) ⟨by omega, by omega⟩ rfl (fun H125169 e125170 w125171 => ?_))
  have f125172 := f0.put' e125170 g0 rfl
  have k125173 : H125169 r0 0 = 0 := wq_u_s e125170
  refine wp_of e210 c210_5 (rw_aload_n (pc' := 6) (v := .ref r0) rfl rfl rfl ?_)
  refine wp_of e210 c210_6 (xg_I (pc' := 9) lf_9_104 w125171 g0 sh_42 (by decide) (by decide) ty_42_13 rfl rfl (fun b125174 b125175 => ?_))
  have k125176 : wKI H125169 r0 = wKI H r0 := (wKI_fr hW g0 ((wfr.rf (l := [(42, 0)])).put' e125170 g0 rfl) rfl)
  exact wp_ireturn e210 c210_9 rfl ⟨rfl, w125171, f125172, H125169 r0 13, rfl, ⟨by omega, by omega⟩, by omega⟩
/-! StrikeAwakeModel.where()I -/
theorem e211 : wq_en 211 = some (9, 1, false, some FieldType.int) := rfl
theorem c211_0 : mc_cd 211 0 = some (.aload_n 0, 1) := by decide +kernel
theorem c211_1 : mc_cd 211 1 = some (.iconst 0, 1) := by decide +kernel
theorem c211_2 : mc_cd 211 2 = some (.putfield 48, 3) := by decide +kernel
theorem c211_5 : mc_cd 211 5 = some (.aload_n 0, 1) := by decide +kernel
theorem c211_6 : mc_cd 211 6 = some (.getfield 9, 3) := by decide +kernel
theorem c211_9 : mc_cd 211 9 = some (.ireturn, 1) := by decide +kernel
abbrev q_211 (r0 : Nat) (T : wq_T) (H : wq_H) : Option Value → wq_T → wq_H → Prop := fun r T' H' => T = T' ∧ WT T H' ∧ wfr [(42, 0)] T H H' ∧ ∃ z : Int, some (vI z) = r ∧ ((-2147483648) ≤ z ∧ z ≤ 2147483647) ∧ (wKI H' r0 = 1)
set_option maxHeartbeats 4000000 in
theorem s_211 {kt : Nat → Option mc_E} {T : wq_T} {H : wq_H} {r0 : Nat} (hW : WT T H) (g0 : T.2.2.2 r0 = some 42) (p0 : wKI H r0 = 1) : wpc kt 1 211 [.ref r0] T H (q_211 r0 T H) := by
  refine wp_enter e211 (Nat.le_of_ble_eq_true rfl) rfl ?_
  have f0 : wfr [(42, 0)] T H H := wfr.rf
  show wp _ _ 211 0 [(0, .ref r0)] [] _ H _
  refine wp_of e211 c211_0 (rw_aload_n (pc' := 1) (v := .ref r0) rfl rfl rfl ?_)
  refine wp_of e211 c211_1 (rw_iconst (pc' := 2) rfl ?_)
  refine wp_of e211 c211_2 (xp_I (pc' := 5) lf_9_48 hW g0 sh_42 (by decide) (by decide) ty_42_0 rfl rfl (by omega) (by omega) ⟨by omega, by omega⟩ rfl (fun H125185 e125186 w125187 => ?_))
  have f125188 := f0.put' e125186 g0 rfl
  have k125189 : H125185 r0 0 = 0 := wq_u_s e125186
  refine wp_of e211 c211_5 (rw_aload_n (pc' := 6) (v := .ref r0) rfl rfl rfl ?_)
  refine wp_of e211 c211_6 (xg_I (pc' := 9) lf_9_9 w125187 g0 sh_42 (by decide) (by decide) ty_42_2 rfl rfl (fun b125190 b125191 => ?_))
  have k125192 : wKI H125185 r0 = wKI H r0 := (wKI_fr hW g0 ((wfr.rf (l := [(42, 0)])).put' e125186 g0 rfl) rfl)
  exact wp_ireturn e211 c211_9 rfl ⟨rfl, w125187, f125188, H125185 r0 2, rfl, ⟨by omega, by omega⟩, by omega⟩
/-! StrikeAwakeModel.isPerson(I)Z -/
theorem e213 : wq_en 213 = some (9, 2, false, some FieldType.boolean) := rfl
theorem c213_0 : mc_cd 213 0 = some (.aload_n 0, 1) := by decide +kernel
theorem c213_1 : mc_cd 213 1 = some (.getfield 337, 3) := by decide +kernel
theorem c213_4 : mc_cd 213 4 = some (.ifnull 22, 3) := by decide +kernel
theorem c213_7 : mc_cd 213 7 = some (.iload_n 1, 1) := by decide +kernel
theorem c213_8 : mc_cd 213 8 = some (.ifCond .lt 18, 3) := by decide +kernel
theorem c213_11 : mc_cd 213 11 = some (.iload_n 1, 1) := by decide +kernel
theorem c213_12 : mc_cd 213 12 = some (.aload_n 0, 1) := by decide +kernel
theorem c213_13 : mc_cd 213 13 = some (.getfield 337, 3) := by decide +kernel
theorem c213_16 : mc_cd 213 16 = some (.getfield 188, 3) := by decide +kernel
theorem c213_19 : mc_cd 213 19 = some (.if_icmp .ge 7, 3) := by decide +kernel
theorem c213_22 : mc_cd 213 22 = some (.iconst 1, 1) := by decide +kernel
theorem c213_23 : mc_cd 213 23 = some (.goto 4, 3) := by decide +kernel
theorem c213_26 : mc_cd 213 26 = some (.iconst 0, 1) := by decide +kernel
theorem c213_27 : mc_cd 213 27 = some (.ireturn, 1) := by decide +kernel
abbrev q_213 (r0 : Nat) (a1 : Int) (T : wq_T) (H : wq_H) : Option Value → wq_T → wq_H → Prop := fun r T' H' => T = T' ∧ H = H' ∧ ∃ z : Int, some (vI z) = r ∧ (0 ≤ z ∧ z ≤ 1) ∧ (z = 0 ∨ (H r0 3 ≠ -1 ∧ 0 ≤ a1 ∧ a1 ≤ 5))
set_option maxHeartbeats 4000000 in
theorem s_213 {kt : Nat → Option mc_E} {T : wq_T} {H : wq_H} {r0 : Nat} {a1 : Int} (hW : WT T H) (g0 : T.2.2.2 r0 = some 42) (i1 : (-2147483648) ≤ a1 ∧ a1 ≤ 2147483647) : wpc kt 1 213 [.ref r0, vI a1] T H (q_213 r0 a1 T H) := by
  refine wp_enter e213 (Nat.le_of_ble_eq_true rfl) rfl ?_
  show wp _ _ 213 0 [(0, .ref r0), (1, vI a1)] [] _ H _
  refine wp_of e213 c213_0 (rw_aload_n (pc' := 1) (v := .ref r0) rfl rfl rfl ?_)
  refine wp_of e213 c213_1 (xg_O (pc' := 4) lf_9_337 hW g0 sh_42 (by decide) (by decide) ty_42_3 rfl rfl (fun q125201 => ?_) (fun r125200 q125201 g125202 => ?_))
  · refine wp_of e213 c213_4 (rw_ifnull_n (p1 := 26) (p2 := 7) (by decide) rfl ?_)
    refine wp_of e213 c213_26 (rw_iconst (pc' := 27) rfl ?_)
    exact wp_zreturn e213 c213_27 rfl (by omega) ⟨rfl, rfl, 0, rfl, ⟨by omega, by omega⟩, by omega⟩
  · refine wp_of e213 c213_4 (rw_ifnull_r (p1 := 26) (p2 := 7) (by decide) rfl ?_)
    refine wp_of e213 c213_7 (rw_iload_n (pc' := 8) (z := a1) rfl rfl ?_)
    refine wp_of e213 c213_8 (rw_if_lt (p1 := 26) (p2 := 11) (by decide) rfl ⟨by omega, by omega⟩ (fun c125203 => ?_) (fun c125203 => ?_))
    · refine wp_of e213 c213_26 (rw_iconst (pc' := 27) rfl ?_)
      exact wp_zreturn e213 c213_27 rfl (by omega) ⟨rfl, rfl, 0, rfl, ⟨by omega, by omega⟩, by omega⟩
    · refine wp_of e213 c213_11 (rw_iload_n (pc' := 12) (z := a1) rfl rfl ?_)
      refine wp_of e213 c213_12 (rw_aload_n (pc' := 13) (v := .ref r0) rfl rfl rfl ?_)
      refine wp_of e213 c213_13 (xg_K (pc' := 16) lf_9_337 hW g0 sh_42 (by decide) (by decide) rfl q125201 rfl ?_)
      refine wp_of e213 c213_16 (xg_I (pc' := 19) lf_9_188 hW g125202 sh_54 (by decide) (by decide) ty_54_3 rfl rfl (fun b125204 b125205 => ?_))
      refine wp_of e213 c213_19 (rw_icmp_ge (p1 := 26) (p2 := 22) (by decide) rfl ⟨by omega, by omega⟩ ⟨by omega, by omega⟩ (fun c125206 => ?_) (fun c125206 => ?_))
      · refine wp_of e213 c213_26 (rw_iconst (pc' := 27) rfl ?_)
        exact wp_zreturn e213 c213_27 rfl (by omega) ⟨rfl, rfl, 0, rfl, ⟨by omega, by omega⟩, by omega⟩
      · refine wp_of e213 c213_22 (rw_iconst (pc' := 23) rfl ?_)
        refine wp_of e213 c213_23 (rw_goto (p1 := 27) (by decide) ?_)
        exact wp_zreturn e213 c213_27 rfl (by omega) ⟨rfl, rfl, 1, rfl, ⟨by omega, by omega⟩, by omega⟩
/-! StrikeAwakeModel.spans(I)I -/
theorem e212 : wq_en 212 = some (9, 2, false, some FieldType.int) := rfl
theorem c212_0 : mc_cd 212 0 = some (.aload_n 0, 1) := by decide +kernel
theorem c212_1 : mc_cd 212 1 = some (.iconst 0, 1) := by decide +kernel
theorem c212_2 : mc_cd 212 2 = some (.putfield 48, 3) := by decide +kernel
theorem c212_5 : mc_cd 212 5 = some (.aload_n 0, 1) := by decide +kernel
theorem c212_6 : mc_cd 212 6 = some (.iload_n 1, 1) := by decide +kernel
theorem c212_7 : mc_cd 212 7 = some (.invokevirtual 364, 3) := by decide +kernel
theorem c212_10 : mc_cd 212 10 = some (.ifCond .eq 16, 3) := by decide +kernel
theorem c212_13 : mc_cd 212 13 = some (.aload_n 0, 1) := by decide +kernel
theorem c212_14 : mc_cd 212 14 = some (.aload_n 0, 1) := by decide +kernel
theorem c212_15 : mc_cd 212 15 = some (.getfield 21, 3) := by decide +kernel
theorem c212_18 : mc_cd 212 18 = some (.iload_n 1, 1) := by decide +kernel
theorem c212_19 : mc_cd 212 19 = some (.iaload, 1) := by decide +kernel
theorem c212_20 : mc_cd 212 20 = some (.invokevirtual 58, 3) := by decide +kernel
theorem c212_23 : mc_cd 212 23 = some (.goto 8, 3) := by decide +kernel
theorem c212_26 : mc_cd 212 26 = some (.aload_n 0, 1) := by decide +kernel
theorem c212_27 : mc_cd 212 27 = some (.iconst 1, 1) := by decide +kernel
theorem c212_28 : mc_cd 212 28 = some (.invokevirtual 54, 3) := by decide +kernel
theorem c212_31 : mc_cd 212 31 = some (.ireturn, 1) := by decide +kernel
abbrev q_212 (r0 : Nat) (a1 : Int) (T : wq_T) (H : wq_H) : Option Value → wq_T → wq_H → Prop := fun r T' H' => T = T' ∧ WT T H' ∧ wfr [(42, 0), (42, 1), (42, 2)] T H H' ∧ ∃ z : Int, some (vI z) = r ∧ ((-2147483648) ≤ z ∧ z ≤ 2147483647) ∧ (wKI H' r0 = 1)
set_option maxHeartbeats 4000000 in
theorem s_212 {kt : Nat → Option mc_E} {T : wq_T} {H : wq_H} {r0 : Nat} {a1 : Int} (hW : WT T H) (g0 : T.2.2.2 r0 = some 42) (i1 : (-2147483648) ≤ a1 ∧ a1 ≤ 2147483647) (p0 : wKI H r0 = 1) : wpc kt 2 212 [.ref r0, vI a1] T H (q_212 r0 a1 T H) := by
  refine wp_enter e212 (Nat.le_of_ble_eq_true rfl) rfl ?_
  have f0 : wfr [(42, 0), (42, 1), (42, 2)] T H H := wfr.rf
  show wp _ _ 212 0 [(0, .ref r0), (1, vI a1)] [] _ H _
  refine wp_of e212 c212_0 (rw_aload_n (pc' := 1) (v := .ref r0) rfl rfl rfl ?_)
  refine wp_of e212 c212_1 (rw_iconst (pc' := 2) rfl ?_)
  refine wp_of e212 c212_2 (xp_I (pc' := 5) lf_9_48 hW g0 sh_42 (by decide) (by decide) ty_42_0 rfl rfl (by omega) (by omega) ⟨by omega, by omega⟩ rfl (fun H125252 e125253 w125254 => ?_))
  have f125255 := f0.put' e125253 g0 rfl
  have k125256 : H125252 r0 0 = 0 := wq_u_s e125253
  refine wp_of e212 c212_5 (rw_aload_n (pc' := 6) (v := .ref r0) rfl rfl rfl ?_)
  refine wp_of e212 c212_6 (rw_iload_n (pc' := 7) (z := a1) rfl rfl ?_)
  refine wp_of e212 c212_7 (xc_V (pc' := 10) (r := r0) (as := [vI a1]) (st := []) (lm_9_364) rfl rfl (Nat.le_of_ble_eq_true rfl) w125254 g0 sh_42 (by decide) rfl (by decide) (s_213 w125254 g0 ⟨by omega, by omega⟩) (fun R125257 T125258 H125259 p125260 => ?_))
  obtain ⟨e125261, e125263, z125265, e125262, b125266, p125264⟩ := p125260
  subst e125261
  subst e125262
  subst e125263
  show wp _ _ 212 10 [(0, .ref r0), (1, vI a1)] [vI z125265] _ H125252 _
  refine wp_of e212 c212_10 (rw_if_eq (p1 := 26) (p2 := 13) (by decide) rfl ⟨by omega, by omega⟩ (fun c125267 => ?_) (fun c125267 => ?_))
  · refine wp_of e212 c212_26 (rw_aload_n (pc' := 27) (v := .ref r0) rfl rfl rfl ?_)
    refine wp_of e212 c212_27 (rw_iconst (pc' := 28) rfl ?_)
    refine wp_of e212 c212_28 (xc_V (pc' := 31) (r := r0) (as := [vI 1]) (st := []) (lm_9_54) rfl rfl (Nat.le_of_ble_eq_true rfl) w125254 g0 sh_42 (by decide) rfl (by decide) (s_170 w125254 g0 ⟨by omega, by omega⟩) (fun R125268 T125269 H125270 p125271 => ?_))
    obtain ⟨e125272, w125274, f125275, z125276, e125273, b125277⟩ := p125271
    subst e125272
    subst e125273
    have f125278 := f125255.tr f125275 rfl
    show wp _ _ 212 31 [(0, .ref r0), (1, vI a1)] [vI z125276] _ H125270 _
    have k125279 : wKI H125270 r0 = wKI H r0 := ((wKI_fr w125254 g0 f125275 rfl).trans (wKI_fr hW g0 ((wfr.rf (l := [(42, 0)])).put' e125253 g0 rfl) rfl))
    exact wp_ireturn e212 c212_31 rfl ⟨rfl, w125274, f125278, z125276, rfl, ⟨by omega, by omega⟩, by omega⟩
  · refine wp_of e212 c212_13 (rw_aload_n (pc' := 14) (v := .ref r0) rfl rfl rfl ?_)
    refine wp_of e212 c212_14 (rw_aload_n (pc' := 15) (v := .ref r0) rfl rfl rfl ?_)
    refine wp_of e212 c212_15 (xg_R (pc' := 18) lf_9_21 w125254 g0 sh_42 (by decide) (by decide) ty_42_21 rfl rfl (fun r125280 q125281 g125282 => ?_))
    refine wp_of e212 c212_18 (rw_iload_n (pc' := 19) (z := a1) rfl rfl ?_)
    refine wp_of e212 c212_19 (xa_I (so := 0) (pc' := 20) w125254 g125282 sh_45 (by decide) (ty_45 _) (by omega) (by omega) rfl (fun b125283 b125284 => ?_))
    refine wp_of e212 c212_20 (xc_V (pc' := 23) (r := r0) (as := [vI (H125252 r125280 (a1.toNat))]) (st := []) (lm_9_58) rfl rfl (Nat.le_of_ble_eq_true rfl) w125254 g0 sh_42 (by decide) rfl (by decide) (s_209 w125254 g0 ⟨by omega, by omega⟩) (fun R125285 T125286 H125287 p125288 => ?_))
    obtain ⟨e125289, w125291, f125292, z125293, e125290, b125294⟩ := p125288
    subst e125289
    subst e125290
    have f125295 := f125255.tr f125292 rfl
    show wp _ _ 212 23 [(0, .ref r0), (1, vI a1)] [vI z125293] _ H125287 _
    refine wp_of e212 c212_23 (rw_goto (p1 := 31) (by decide) ?_)
    have k125296 : wKI H125287 r0 = wKI H r0 := ((wKI_fr w125254 g0 f125292 rfl).trans (wKI_fr hW g0 ((wfr.rf (l := [(42, 0)])).put' e125253 g0 rfl) rfl))
    exact wp_ireturn e212 c212_31 rfl ⟨rfl, w125291, f125295, z125293, rfl, ⟨by omega, by omega⟩, by omega⟩
/-! StrikeAwakeModel.isSpan(II)Z -/
theorem e215 : wq_en 215 = some (9, 3, false, some FieldType.boolean) := rfl
theorem c215_0 : mc_cd 215 0 = some (.aload_n 0, 1) := by decide +kernel
theorem c215_1 : mc_cd 215 1 = some (.iload_n 1, 1) := by decide +kernel
theorem c215_2 : mc_cd 215 2 = some (.invokevirtual 364, 3) := by decide +kernel
theorem c215_5 : mc_cd 215 5 = some (.ifCond .eq 21, 3) := by decide +kernel
theorem c215_8 : mc_cd 215 8 = some (.iload_n 2, 1) := by decide +kernel
theorem c215_9 : mc_cd 215 9 = some (.ifCond .lt 17, 3) := by decide +kernel
theorem c215_12 : mc_cd 215 12 = some (.iload_n 2, 1) := by decide +kernel
theorem c215_13 : mc_cd 215 13 = some (.aload_n 0, 1) := by decide +kernel
theorem c215_14 : mc_cd 215 14 = some (.getfield 21, 3) := by decide +kernel
theorem c215_17 : mc_cd 215 17 = some (.iload_n 1, 1) := by decide +kernel
theorem c215_18 : mc_cd 215 18 = some (.iaload, 1) := by decide +kernel
theorem c215_19 : mc_cd 215 19 = some (.if_icmp .ge 7, 3) := by decide +kernel
theorem c215_22 : mc_cd 215 22 = some (.iconst 1, 1) := by decide +kernel
theorem c215_23 : mc_cd 215 23 = some (.goto 4, 3) := by decide +kernel
theorem c215_26 : mc_cd 215 26 = some (.iconst 0, 1) := by decide +kernel
theorem c215_27 : mc_cd 215 27 = some (.ireturn, 1) := by decide +kernel
abbrev q_215 (r0 : Nat) (a1 : Int) (a2 : Int) (T : wq_T) (H : wq_H) : Option Value → wq_T → wq_H → Prop := fun r T' H' => T = T' ∧ H = H' ∧ ∃ z : Int, some (vI z) = r ∧ (0 ≤ z ∧ z ≤ 1) ∧ (z = 0 ∨ (H r0 3 ≠ -1 ∧ 0 ≤ a1 ∧ a1 ≤ 5 ∧ 0 ≤ a2 ∧ a2 ≤ 39))
set_option maxHeartbeats 4000000 in
theorem s_215 {kt : Nat → Option mc_E} {T : wq_T} {H : wq_H} {r0 : Nat} {a1 : Int} {a2 : Int} (hW : WT T H) (g0 : T.2.2.2 r0 = some 42) (i1 : (-2147483648) ≤ a1 ∧ a1 ≤ 2147483647) (i2 : (-2147483648) ≤ a2 ∧ a2 ≤ 2147483647) : wpc kt 2 215 [.ref r0, vI a1, vI a2] T H (q_215 r0 a1 a2 T H) := by
  refine wp_enter e215 (Nat.le_of_ble_eq_true rfl) rfl ?_
  show wp _ _ 215 0 [(0, .ref r0), (1, vI a1), (2, vI a2)] [] _ H _
  refine wp_of e215 c215_0 (rw_aload_n (pc' := 1) (v := .ref r0) rfl rfl rfl ?_)
  refine wp_of e215 c215_1 (rw_iload_n (pc' := 2) (z := a1) rfl rfl ?_)
  refine wp_of e215 c215_2 (xc_V (pc' := 5) (r := r0) (as := [vI a1]) (st := []) (lm_9_364) rfl rfl (Nat.le_of_ble_eq_true rfl) hW g0 sh_42 (by decide) rfl (by decide) (s_213 hW g0 ⟨by omega, by omega⟩) (fun R125315 T125316 H125317 p125318 => ?_))
  obtain ⟨e125319, e125321, z125323, e125320, b125324, p125322⟩ := p125318
  subst e125319
  subst e125320
  subst e125321
  show wp _ _ 215 5 [(0, .ref r0), (1, vI a1), (2, vI a2)] [vI z125323] _ H _
  refine wp_of e215 c215_5 (rw_if_eq (p1 := 26) (p2 := 8) (by decide) rfl ⟨by omega, by omega⟩ (fun c125325 => ?_) (fun c125325 => ?_))
  · refine wp_of e215 c215_26 (rw_iconst (pc' := 27) rfl ?_)
    exact wp_zreturn e215 c215_27 rfl (by omega) ⟨rfl, rfl, 0, rfl, ⟨by omega, by omega⟩, by omega⟩
  · refine wp_of e215 c215_8 (rw_iload_n (pc' := 9) (z := a2) rfl rfl ?_)
    refine wp_of e215 c215_9 (rw_if_lt (p1 := 26) (p2 := 12) (by decide) rfl ⟨by omega, by omega⟩ (fun c125326 => ?_) (fun c125326 => ?_))
    · refine wp_of e215 c215_26 (rw_iconst (pc' := 27) rfl ?_)
      exact wp_zreturn e215 c215_27 rfl (by omega) ⟨rfl, rfl, 0, rfl, ⟨by omega, by omega⟩, by omega⟩
    · refine wp_of e215 c215_12 (rw_iload_n (pc' := 13) (z := a2) rfl rfl ?_)
      refine wp_of e215 c215_13 (rw_aload_n (pc' := 14) (v := .ref r0) rfl rfl rfl ?_)
      refine wp_of e215 c215_14 (xg_R (pc' := 17) lf_9_21 hW g0 sh_42 (by decide) (by decide) ty_42_21 rfl rfl (fun r125327 q125328 g125329 => ?_))
      refine wp_of e215 c215_17 (rw_iload_n (pc' := 18) (z := a1) rfl rfl ?_)
      refine wp_of e215 c215_18 (xa_I (so := 0) (pc' := 19) hW g125329 sh_45 (by decide) (ty_45 _) (by omega) (by omega) rfl (fun b125330 b125331 => ?_))
      refine wp_of e215 c215_19 (rw_icmp_ge (p1 := 26) (p2 := 22) (by decide) rfl ⟨by omega, by omega⟩ ⟨by omega, by omega⟩ (fun c125332 => ?_) (fun c125332 => ?_))
      · refine wp_of e215 c215_26 (rw_iconst (pc' := 27) rfl ?_)
        exact wp_zreturn e215 c215_27 rfl (by omega) ⟨rfl, rfl, 0, rfl, ⟨by omega, by omega⟩, by omega⟩
      · refine wp_of e215 c215_22 (rw_iconst (pc' := 23) rfl ?_)
        refine wp_of e215 c215_23 (rw_goto (p1 := 27) (by decide) ?_)
        exact wp_zreturn e215 c215_27 rfl (by omega) ⟨rfl, rfl, 1, rfl, ⟨by omega, by omega⟩, by omega⟩
/-! StrikeAwakeModel.weightOf(II)I -/
theorem e216 : wq_en 216 = some (9, 5, false, some FieldType.int) := rfl
theorem c216_0 : mc_cd 216 0 = some (.aload_n 0, 1) := by decide +kernel
theorem c216_1 : mc_cd 216 1 = some (.getfield 337, 3) := by decide +kernel
theorem c216_4 : mc_cd 216 4 = some (.getfield 259, 3) := by decide +kernel
theorem c216_7 : mc_cd 216 7 = some (.iload_n 1, 1) := by decide +kernel
theorem c216_8 : mc_cd 216 8 = some (.iaload, 1) := by decide +kernel
theorem c216_9 : mc_cd 216 9 = some (.iconst (-1), 1) := by decide +kernel
theorem c216_10 : mc_cd 216 10 = some (.if_icmp .ne 5, 3) := by decide +kernel
theorem c216_13 : mc_cd 216 13 = some (.iconst 1, 1) := by decide +kernel
theorem c216_14 : mc_cd 216 14 = some (.ireturn, 1) := by decide +kernel
theorem c216_15 : mc_cd 216 15 = some (.aload_n 0, 1) := by decide +kernel
theorem c216_16 : mc_cd 216 16 = some (.getfield 24, 3) := by decide +kernel
theorem c216_19 : mc_cd 216 19 = some (.bipush 40, 2) := by decide +kernel
theorem c216_21 : mc_cd 216 21 = some (.iload_n 1, 1) := by decide +kernel
theorem c216_22 : mc_cd 216 22 = some (.imul, 1) := by decide +kernel
theorem c216_23 : mc_cd 216 23 = some (.iload_n 2, 1) := by decide +kernel
theorem c216_24 : mc_cd 216 24 = some (.iadd, 1) := by decide +kernel
theorem c216_25 : mc_cd 216 25 = some (.iaload, 1) := by decide +kernel
theorem c216_26 : mc_cd 216 26 = some (.aload_n 0, 1) := by decide +kernel
theorem c216_27 : mc_cd 216 27 = some (.getfield 337, 3) := by decide +kernel
theorem c216_30 : mc_cd 216 30 = some (.getfield 259, 3) := by decide +kernel
theorem c216_33 : mc_cd 216 33 = some (.iload_n 1, 1) := by decide +kernel
theorem c216_34 : mc_cd 216 34 = some (.iaload, 1) := by decide +kernel
theorem c216_35 : mc_cd 216 35 = some (.isub, 1) := by decide +kernel
theorem c216_36 : mc_cd 216 36 = some (.istore_n 3, 1) := by decide +kernel
theorem c216_37 : mc_cd 216 37 = some (.bipush 10, 2) := by decide +kernel
theorem c216_39 : mc_cd 216 39 = some (.iload_n 3, 1) := by decide +kernel
theorem c216_40 : mc_cd 216 40 = some (.ifCond .ge 8, 3) := by decide +kernel
theorem c216_43 : mc_cd 216 43 = some (.iload_n 3, 1) := by decide +kernel
theorem c216_44 : mc_cd 216 44 = some (.ineg, 1) := by decide +kernel
theorem c216_45 : mc_cd 216 45 = some (.goto 4, 3) := by decide +kernel
theorem c216_48 : mc_cd 216 48 = some (.iload_n 3, 1) := by decide +kernel
theorem c216_49 : mc_cd 216 49 = some (.isub, 1) := by decide +kernel
theorem c216_50 : mc_cd 216 50 = some (.istore 4, 2) := by decide +kernel
theorem c216_52 : mc_cd 216 52 = some (.iload 4, 2) := by decide +kernel
theorem c216_54 : mc_cd 216 54 = some (.iconst 1, 1) := by decide +kernel
theorem c216_55 : mc_cd 216 55 = some (.if_icmp .ge 7, 3) := by decide +kernel
theorem c216_58 : mc_cd 216 58 = some (.iconst 1, 1) := by decide +kernel
theorem c216_59 : mc_cd 216 59 = some (.goto 5, 3) := by decide +kernel
theorem c216_62 : mc_cd 216 62 = some (.iload 4, 2) := by decide +kernel
theorem c216_64 : mc_cd 216 64 = some (.ireturn, 1) := by decide +kernel
abbrev q_216 (r0 : Nat) (a1 : Int) (a2 : Int) (pp : Nat) (T : wq_T) (H : wq_H) : Option Value → wq_T → wq_H → Prop := fun r T' H' => T = T' ∧ H = H' ∧ ∃ z : Int, some (vI z) = r ∧ (1 ≤ z ∧ z ≤ 10)
set_option maxHeartbeats 4000000 in
theorem s_216 {kt : Nat → Option mc_E} {T : wq_T} {H : wq_H} {r0 : Nat} {a1 : Int} {a2 : Int} {pp : Nat} (hW : WT T H) (g0 : T.2.2.2 r0 = some 42) (i1 : 0 ≤ a1 ∧ a1 ≤ 5) (i2 : 0 ≤ a2 ∧ a2 ≤ 39) (qpp : H r0 3 = (pp : Int)) (gpp : T.2.2.2 pp = some 54) : wpc kt 1 216 [.ref r0, vI a1, vI a2] T H (q_216 r0 a1 a2 pp T H) := by
  refine wp_enter e216 (Nat.le_of_ble_eq_true rfl) rfl ?_
  show wp _ _ 216 0 [(0, .ref r0), (1, vI a1), (2, vI a2)] [] _ H _
  refine wp_of e216 c216_0 (rw_aload_n (pc' := 1) (v := .ref r0) rfl rfl rfl ?_)
  refine wp_of e216 c216_1 (xg_K (pc' := 4) lf_9_337 hW g0 sh_42 (by decide) (by decide) rfl qpp rfl ?_)
  refine wp_of e216 c216_4 (xg_R (pc' := 7) lf_9_259 hW gpp sh_54 (by decide) (by decide) ty_54_14 rfl rfl (fun r125349 q125350 g125351 => ?_))
  refine wp_of e216 c216_7 (rw_iload_n (pc' := 8) (z := a1) rfl rfl ?_)
  refine wp_of e216 c216_8 (xa_I (so := 0) (pc' := 9) hW g125351 sh_60 (by decide) (ty_60 _) (by omega) (by omega) rfl (fun b125352 b125353 => ?_))
  refine wp_of e216 c216_9 (rw_iconst (pc' := 10) rfl ?_)
  refine wp_of e216 c216_10 (rw_icmp_ne (p1 := 15) (p2 := 13) (by decide) rfl ⟨by omega, by omega⟩ ⟨by omega, by omega⟩ (fun c125354 => ?_) (fun c125354 => ?_))
  · refine wp_of e216 c216_15 (rw_aload_n (pc' := 16) (v := .ref r0) rfl rfl rfl ?_)
    refine wp_of e216 c216_16 (xg_R (pc' := 19) lf_9_24 hW g0 sh_42 (by decide) (by decide) ty_42_22 rfl rfl (fun r125355 q125356 g125357 => ?_))
    refine wp_of e216 c216_19 (rw_bipush (pc' := 21) (z := 40) rfl (by decide) ?_)
    refine wp_of e216 c216_21 (rw_iload_n (pc' := 22) (z := a1) rfl rfl ?_)
    refine wp_of e216 c216_22 (rw_imul (pc' := 23) rfl ?_)
    refine wp_of e216 c216_23 (rw_iload_n (pc' := 24) (z := a2) rfl rfl ?_)
    refine wp_of e216 c216_24 (rw_iadd (pc' := 25) rfl ?_)
    refine wp_of e216 c216_25 (xa_I (so := 0) (pc' := 26) hW g125357 sh_46 (by decide) (ty_46 _) (by omega) (by omega) rfl (fun b125358 b125359 => ?_))
    refine wp_of e216 c216_26 (rw_aload_n (pc' := 27) (v := .ref r0) rfl rfl rfl ?_)
    refine wp_of e216 c216_27 (xg_K (pc' := 30) lf_9_337 hW g0 sh_42 (by decide) (by decide) rfl qpp rfl ?_)
    refine wp_of e216 c216_30 (xg_K (pc' := 33) lf_9_259 hW gpp sh_54 (by decide) (by decide) rfl q125350 rfl ?_)
    refine wp_of e216 c216_33 (rw_iload_n (pc' := 34) (z := a1) rfl rfl ?_)
    refine wp_of e216 c216_34 (xa_I (so := 0) (pc' := 35) hW g125351 sh_60 (by decide) (ty_60 _) (by omega) (by omega) rfl (fun b125360 b125361 => ?_))
    refine wp_of e216 c216_35 (rw_isub (pc' := 36) rfl ?_)
    refine wp_of e216 c216_36 (rw_istore_n (pc' := 37) (z := (H r125355 (((40 * a1) + a2).toNat)) - (H r125349 (a1.toNat))) (L' := [(3, vI ((H r125355 (((40 * a1) + a2).toNat)) - (H r125349 (a1.toNat)))), (0, .ref r0), (1, vI a1), (2, vI a2)]) rfl rfl rfl ?_)
    refine wp_of e216 c216_37 (rw_bipush (pc' := 39) (z := 10) rfl (by decide) ?_)
    refine wp_of e216 c216_39 (rw_iload_n (pc' := 40) (z := (H r125355 (((40 * a1) + a2).toNat)) - (H r125349 (a1.toNat))) rfl rfl ?_)
    refine wp_of e216 c216_40 (rw_if_ge (p1 := 48) (p2 := 43) (by decide) rfl ⟨by omega, by omega⟩ (fun c125362 => ?_) (fun c125362 => ?_))
    · refine wp_of e216 c216_48 (rw_iload_n (pc' := 49) (z := (H r125355 (((40 * a1) + a2).toNat)) - (H r125349 (a1.toNat))) rfl rfl ?_)
      refine wp_of e216 c216_49 (rw_isub (pc' := 50) rfl ?_)
      refine wp_of e216 c216_50 (rw_istore (pc' := 52) (z := 10 - ((H r125355 (((40 * a1) + a2).toNat)) - (H r125349 (a1.toNat)))) (L' := [(4, vI (10 - ((H r125355 (((40 * a1) + a2).toNat)) - (H r125349 (a1.toNat))))), (3, vI ((H r125355 (((40 * a1) + a2).toNat)) - (H r125349 (a1.toNat)))), (0, .ref r0), (1, vI a1), (2, vI a2)]) rfl rfl rfl ?_)
      refine wp_of e216 c216_52 (rw_iload (pc' := 54) (z := 10 - ((H r125355 (((40 * a1) + a2).toNat)) - (H r125349 (a1.toNat)))) rfl rfl ?_)
      refine wp_of e216 c216_54 (rw_iconst (pc' := 55) rfl ?_)
      refine wp_of e216 c216_55 (rw_icmp_ge (p1 := 62) (p2 := 58) (by decide) rfl ⟨by omega, by omega⟩ ⟨by omega, by omega⟩ (fun c125363 => ?_) (fun c125363 => ?_))
      · refine wp_of e216 c216_62 (rw_iload (pc' := 64) (z := 10 - ((H r125355 (((40 * a1) + a2).toNat)) - (H r125349 (a1.toNat)))) rfl rfl ?_)
        exact wp_ireturn e216 c216_64 rfl ⟨rfl, rfl, 10 - ((H r125355 (((40 * a1) + a2).toNat)) - (H r125349 (a1.toNat))), rfl, ⟨by omega, by omega⟩⟩
      · refine wp_of e216 c216_58 (rw_iconst (pc' := 59) rfl ?_)
        refine wp_of e216 c216_59 (rw_goto (p1 := 64) (by decide) ?_)
        exact wp_ireturn e216 c216_64 rfl ⟨rfl, rfl, 1, rfl, ⟨by omega, by omega⟩⟩
    · refine wp_of e216 c216_43 (rw_iload_n (pc' := 44) (z := (H r125355 (((40 * a1) + a2).toNat)) - (H r125349 (a1.toNat))) rfl rfl ?_)
      refine wp_of e216 c216_44 (rw_ineg (pc' := 45) rfl ?_)
      refine wp_of e216 c216_45 (rw_goto (p1 := 49) (by decide) ?_)
      refine wp_of e216 c216_49 (rw_isub (pc' := 50) rfl ?_)
      refine wp_of e216 c216_50 (rw_istore (pc' := 52) (z := 10 - (-((H r125355 (((40 * a1) + a2).toNat)) - (H r125349 (a1.toNat))))) (L' := [(4, vI (10 - (-((H r125355 (((40 * a1) + a2).toNat)) - (H r125349 (a1.toNat)))))), (3, vI ((H r125355 (((40 * a1) + a2).toNat)) - (H r125349 (a1.toNat)))), (0, .ref r0), (1, vI a1), (2, vI a2)]) rfl rfl rfl ?_)
      refine wp_of e216 c216_52 (rw_iload (pc' := 54) (z := 10 - (-((H r125355 (((40 * a1) + a2).toNat)) - (H r125349 (a1.toNat))))) rfl rfl ?_)
      refine wp_of e216 c216_54 (rw_iconst (pc' := 55) rfl ?_)
      refine wp_of e216 c216_55 (rw_icmp_ge (p1 := 62) (p2 := 58) (by decide) rfl ⟨by omega, by omega⟩ ⟨by omega, by omega⟩ (fun c125364 => ?_) (fun c125364 => ?_))
      · refine wp_of e216 c216_62 (rw_iload (pc' := 64) (z := 10 - (-((H r125355 (((40 * a1) + a2).toNat)) - (H r125349 (a1.toNat))))) rfl rfl ?_)
        exact wp_ireturn e216 c216_64 rfl ⟨rfl, rfl, 10 - (-((H r125355 (((40 * a1) + a2).toNat)) - (H r125349 (a1.toNat)))), rfl, ⟨by omega, by omega⟩⟩
      · refine wp_of e216 c216_58 (rw_iconst (pc' := 59) rfl ?_)
        refine wp_of e216 c216_59 (rw_goto (p1 := 64) (by decide) ?_)
        exact wp_ireturn e216 c216_64 rfl ⟨rfl, rfl, 1, rfl, ⟨by omega, by omega⟩⟩
  · refine wp_of e216 c216_13 (rw_iconst (pc' := 14) rfl ?_)
    exact wp_ireturn e216 c216_14 rfl ⟨rfl, rfl, 1, rfl, ⟨by omega, by omega⟩⟩
/-! StrikeAwakeModel.span(III)I -/
theorem e214 : wq_en 214 = some (9, 4, false, some FieldType.int) := rfl
theorem c214_0 : mc_cd 214 0 = some (.aload_n 0, 1) := by decide +kernel
theorem c214_1 : mc_cd 214 1 = some (.iconst 0, 1) := by decide +kernel
theorem c214_2 : mc_cd 214 2 = some (.putfield 48, 3) := by decide +kernel
theorem c214_5 : mc_cd 214 5 = some (.aload_n 0, 1) := by decide +kernel
theorem c214_6 : mc_cd 214 6 = some (.iload_n 1, 1) := by decide +kernel
theorem c214_7 : mc_cd 214 7 = some (.iload_n 2, 1) := by decide +kernel
theorem c214_8 : mc_cd 214 8 = some (.invokevirtual 367, 3) := by decide +kernel
theorem c214_11 : mc_cd 214 11 = some (.ifCond .eq 12, 3) := by decide +kernel
theorem c214_14 : mc_cd 214 14 = some (.iload_n 3, 1) := by decide +kernel
theorem c214_15 : mc_cd 214 15 = some (.iconst 0, 1) := by decide +kernel
theorem c214_16 : mc_cd 214 16 = some (.iconst 2, 1) := by decide +kernel
theorem c214_17 : mc_cd 214 17 = some (.invokestatic 125, 3) := by decide +kernel
theorem c214_20 : mc_cd 214 20 = some (.ifCond .ne 9, 3) := by decide +kernel
theorem c214_23 : mc_cd 214 23 = some (.aload_n 0, 1) := by decide +kernel
theorem c214_24 : mc_cd 214 24 = some (.iconst 1, 1) := by decide +kernel
theorem c214_25 : mc_cd 214 25 = some (.invokevirtual 54, 3) := by decide +kernel
theorem c214_28 : mc_cd 214 28 = some (.ireturn, 1) := by decide +kernel
theorem c214_29 : mc_cd 214 29 = some (.aload_n 0, 1) := by decide +kernel
theorem c214_30 : mc_cd 214 30 = some (.iload_n 3, 1) := by decide +kernel
theorem c214_31 : mc_cd 214 31 = some (.ifCond .ne 17, 3) := by decide +kernel
theorem c214_34 : mc_cd 214 34 = some (.aload_n 0, 1) := by decide +kernel
theorem c214_35 : mc_cd 214 35 = some (.getfield 24, 3) := by decide +kernel
theorem c214_38 : mc_cd 214 38 = some (.bipush 40, 2) := by decide +kernel
theorem c214_40 : mc_cd 214 40 = some (.iload_n 1, 1) := by decide +kernel
theorem c214_41 : mc_cd 214 41 = some (.imul, 1) := by decide +kernel
theorem c214_42 : mc_cd 214 42 = some (.iload_n 2, 1) := by decide +kernel
theorem c214_43 : mc_cd 214 43 = some (.iadd, 1) := by decide +kernel
theorem c214_44 : mc_cd 214 44 = some (.iaload, 1) := by decide +kernel
theorem c214_45 : mc_cd 214 45 = some (.goto 28, 3) := by decide +kernel
theorem c214_48 : mc_cd 214 48 = some (.iload_n 3, 1) := by decide +kernel
theorem c214_49 : mc_cd 214 49 = some (.iconst 1, 1) := by decide +kernel
theorem c214_50 : mc_cd 214 50 = some (.if_icmp .ne 17, 3) := by decide +kernel
theorem c214_53 : mc_cd 214 53 = some (.aload_n 0, 1) := by decide +kernel
theorem c214_54 : mc_cd 214 54 = some (.getfield 27, 3) := by decide +kernel
theorem c214_57 : mc_cd 214 57 = some (.bipush 40, 2) := by decide +kernel
theorem c214_59 : mc_cd 214 59 = some (.iload_n 1, 1) := by decide +kernel
theorem c214_60 : mc_cd 214 60 = some (.imul, 1) := by decide +kernel
theorem c214_61 : mc_cd 214 61 = some (.iload_n 2, 1) := by decide +kernel
theorem c214_62 : mc_cd 214 62 = some (.iadd, 1) := by decide +kernel
theorem c214_63 : mc_cd 214 63 = some (.iaload, 1) := by decide +kernel
theorem c214_64 : mc_cd 214 64 = some (.goto 9, 3) := by decide +kernel
theorem c214_67 : mc_cd 214 67 = some (.aload_n 0, 1) := by decide +kernel
theorem c214_68 : mc_cd 214 68 = some (.iload_n 1, 1) := by decide +kernel
theorem c214_69 : mc_cd 214 69 = some (.iload_n 2, 1) := by decide +kernel
theorem c214_70 : mc_cd 214 70 = some (.invokevirtual 370, 3) := by decide +kernel
theorem c214_73 : mc_cd 214 73 = some (.invokevirtual 58, 3) := by decide +kernel
theorem c214_76 : mc_cd 214 76 = some (.ireturn, 1) := by decide +kernel
abbrev q_214 (r0 : Nat) (a1 : Int) (a2 : Int) (a3 : Int) (T : wq_T) (H : wq_H) : Option Value → wq_T → wq_H → Prop := fun r T' H' => T = T' ∧ WT T H' ∧ wfr [(42, 0), (42, 1), (42, 2)] T H H' ∧ ∃ z : Int, some (vI z) = r ∧ ((-2147483648) ≤ z ∧ z ≤ 2147483647) ∧ (wKI H' r0 = 1)
set_option maxHeartbeats 4000000 in
theorem s_214 {kt : Nat → Option mc_E} {T : wq_T} {H : wq_H} {r0 : Nat} {a1 : Int} {a2 : Int} {a3 : Int} (hW : WT T H) (g0 : T.2.2.2 r0 = some 42) (i1 : (-2147483648) ≤ a1 ∧ a1 ≤ 2147483647) (i2 : (-2147483648) ≤ a2 ∧ a2 ≤ 2147483647) (i3 : (-2147483648) ≤ a3 ∧ a3 ≤ 2147483647) (p0 : wKI H r0 = 1) : wpc kt 3 214 [.ref r0, vI a1, vI a2, vI a3] T H (q_214 r0 a1 a2 a3 T H) := by
  refine wp_enter e214 (Nat.le_of_ble_eq_true rfl) rfl ?_
  have f0 : wfr [(42, 0), (42, 1), (42, 2)] T H H := wfr.rf
  show wp _ _ 214 0 [(0, .ref r0), (1, vI a1), (2, vI a2), (3, vI a3)] [] _ H _
  refine wp_of e214 c214_0 (rw_aload_n (pc' := 1) (v := .ref r0) rfl rfl rfl ?_)
  refine wp_of e214 c214_1 (rw_iconst (pc' := 2) rfl ?_)
  refine wp_of e214 c214_2 (xp_I (pc' := 5) lf_9_48 hW g0 sh_42 (by decide) (by decide) ty_42_0 rfl rfl (by omega) (by omega) ⟨by omega, by omega⟩ rfl (fun H125476 e125477 w125478 => ?_))
  have f125479 := f0.put' e125477 g0 rfl
  have k125480 : H125476 r0 0 = 0 := wq_u_s e125477
  refine wp_of e214 c214_5 (rw_aload_n (pc' := 6) (v := .ref r0) rfl rfl rfl ?_)
  refine wp_of e214 c214_6 (rw_iload_n (pc' := 7) (z := a1) rfl rfl ?_)
  refine wp_of e214 c214_7 (rw_iload_n (pc' := 8) (z := a2) rfl rfl ?_)
  refine wp_of e214 c214_8 (xc_V (pc' := 11) (r := r0) (as := [vI a1, vI a2]) (st := []) (lm_9_367) rfl rfl (Nat.le_of_ble_eq_true rfl) w125478 g0 sh_42 (by decide) rfl (by decide) (s_215 w125478 g0 ⟨by omega, by omega⟩ ⟨by omega, by omega⟩) (fun R125481 T125482 H125483 p125484 => ?_))
  obtain ⟨e125485, e125487, z125489, e125486, b125490, p125488⟩ := p125484
  subst e125485
  subst e125486
  subst e125487
  show wp _ _ 214 11 [(0, .ref r0), (1, vI a1), (2, vI a2), (3, vI a3)] [vI z125489] _ H125476 _
  refine wp_of e214 c214_11 (rw_if_eq (p1 := 23) (p2 := 14) (by decide) rfl ⟨by omega, by omega⟩ (fun c125491 => ?_) (fun c125491 => ?_))
  · refine wp_of e214 c214_23 (rw_aload_n (pc' := 24) (v := .ref r0) rfl rfl rfl ?_)
    refine wp_of e214 c214_24 (rw_iconst (pc' := 25) rfl ?_)
    refine wp_of e214 c214_25 (xc_V (pc' := 28) (r := r0) (as := [vI 1]) (st := []) (lm_9_54) rfl rfl (Nat.le_of_ble_eq_true rfl) w125478 g0 sh_42 (by decide) rfl (by decide) (s_170 w125478 g0 ⟨by omega, by omega⟩) (fun R125492 T125493 H125494 p125495 => ?_))
    obtain ⟨e125496, w125498, f125499, z125500, e125497, b125501⟩ := p125495
    subst e125496
    subst e125497
    have f125502 := f125479.tr f125499 rfl
    show wp _ _ 214 28 [(0, .ref r0), (1, vI a1), (2, vI a2), (3, vI a3)] [vI z125500] _ H125494 _
    have k125503 : wKI H125494 r0 = wKI H r0 := ((wKI_fr w125478 g0 f125499 rfl).trans (wKI_fr hW g0 ((wfr.rf (l := [(42, 0)])).put' e125477 g0 rfl) rfl))
    exact wp_ireturn e214 c214_28 rfl ⟨rfl, w125498, f125502, z125500, rfl, ⟨by omega, by omega⟩, by omega⟩
  · refine wp_of e214 c214_14 (rw_iload_n (pc' := 15) (z := a3) rfl rfl ?_)
    refine wp_of e214 c214_15 (rw_iconst (pc' := 16) rfl ?_)
    refine wp_of e214 c214_16 (rw_iconst (pc' := 17) rfl ?_)
    refine wp_of e214 c214_17 (xc_S (pc' := 20) (as := [vI a3, vI 0, vI 2]) (st := []) (lm_9_125) rfl rfl (Nat.le_of_ble_eq_true rfl) rfl (by decide) (s_186 w125478 ⟨by omega, by omega⟩ ⟨by omega, by omega⟩ ⟨by omega, by omega⟩) (fun R125504 T125505 H125506 p125507 => ?_))
    obtain ⟨e125508, e125510, z125512, e125509, b125513, p125511⟩ := p125507
    subst e125508
    subst e125509
    subst e125510
    show wp _ _ 214 20 [(0, .ref r0), (1, vI a1), (2, vI a2), (3, vI a3)] [vI z125512] _ H125476 _
    refine wp_of e214 c214_20 (rw_if_ne (p1 := 29) (p2 := 23) (by decide) rfl ⟨by omega, by omega⟩ (fun c125514 => ?_) (fun c125514 => ?_))
    · refine wp_of e214 c214_29 (rw_aload_n (pc' := 30) (v := .ref r0) rfl rfl rfl ?_)
      refine wp_of e214 c214_30 (rw_iload_n (pc' := 31) (z := a3) rfl rfl ?_)
      refine wp_of e214 c214_31 (rw_if_ne (p1 := 48) (p2 := 34) (by decide) rfl ⟨by omega, by omega⟩ (fun c125515 => ?_) (fun c125515 => ?_))
      · refine wp_of e214 c214_48 (rw_iload_n (pc' := 49) (z := a3) rfl rfl ?_)
        refine wp_of e214 c214_49 (rw_iconst (pc' := 50) rfl ?_)
        refine wp_of e214 c214_50 (rw_icmp_ne (p1 := 67) (p2 := 53) (by decide) rfl ⟨by omega, by omega⟩ ⟨by omega, by omega⟩ (fun c125516 => ?_) (fun c125516 => ?_))
        · refine wp_of e214 c214_67 (rw_aload_n (pc' := 68) (v := .ref r0) rfl rfl rfl ?_)
          refine wp_of e214 c214_68 (rw_iload_n (pc' := 69) (z := a1) rfl rfl ?_)
          refine wp_of e214 c214_69 (rw_iload_n (pc' := 70) (z := a2) rfl rfl ?_)
          obtain ⟨r125517, q125518, g125519⟩ := (w125478.opt g0 (t' := 54) (n := 33) (j := 3) (p := 0) (q := 0) rfl (by decide) rfl).resolve_left (by omega)
          refine wp_of e214 c214_70 (xc_V (pc' := 73) (r := r0) (as := [vI a1, vI a2]) (st := [.ref r0]) (lm_9_370) rfl rfl (Nat.le_of_ble_eq_true rfl) w125478 g0 sh_42 (by decide) rfl (by decide) (s_216 w125478 g0 ⟨by omega, by omega⟩ ⟨by omega, by omega⟩ q125518 g125519) (fun R125520 T125521 H125522 p125523 => ?_))
          obtain ⟨e125524, e125526, z125527, e125525, b125528⟩ := p125523
          subst e125524
          subst e125525
          subst e125526
          show wp _ _ 214 73 [(0, .ref r0), (1, vI a1), (2, vI a2), (3, vI a3)] [vI z125527, .ref r0] _ H125476 _
          refine wp_of e214 c214_73 (xc_V (pc' := 76) (r := r0) (as := [vI z125527]) (st := []) (lm_9_58) rfl rfl (Nat.le_of_ble_eq_true rfl) w125478 g0 sh_42 (by decide) rfl (by decide) (s_209 w125478 g0 ⟨by omega, by omega⟩) (fun R125529 T125530 H125531 p125532 => ?_))
          obtain ⟨e125533, w125535, f125536, z125537, e125534, b125538⟩ := p125532
          subst e125533
          subst e125534
          have f125539 := f125479.tr f125536 rfl
          show wp _ _ 214 76 [(0, .ref r0), (1, vI a1), (2, vI a2), (3, vI a3)] [vI z125537] _ H125531 _
          have k125540 : wKI H125531 r0 = wKI H r0 := ((wKI_fr w125478 g0 f125536 rfl).trans (wKI_fr hW g0 ((wfr.rf (l := [(42, 0)])).put' e125477 g0 rfl) rfl))
          exact wp_ireturn e214 c214_76 rfl ⟨rfl, w125535, f125539, z125537, rfl, ⟨by omega, by omega⟩, by omega⟩
        · refine wp_of e214 c214_53 (rw_aload_n (pc' := 54) (v := .ref r0) rfl rfl rfl ?_)
          refine wp_of e214 c214_54 (xg_R (pc' := 57) lf_9_27 w125478 g0 sh_42 (by decide) (by decide) ty_42_23 rfl rfl (fun r125541 q125542 g125543 => ?_))
          refine wp_of e214 c214_57 (rw_bipush (pc' := 59) (z := 40) rfl (by decide) ?_)
          refine wp_of e214 c214_59 (rw_iload_n (pc' := 60) (z := a1) rfl rfl ?_)
          refine wp_of e214 c214_60 (rw_imul (pc' := 61) rfl ?_)
          refine wp_of e214 c214_61 (rw_iload_n (pc' := 62) (z := a2) rfl rfl ?_)
          refine wp_of e214 c214_62 (rw_iadd (pc' := 63) rfl ?_)
          refine wp_of e214 c214_63 (xa_I (so := 0) (pc' := 64) w125478 g125543 sh_47 (by decide) (ty_47 _) (by omega) (by omega) rfl (fun b125544 b125545 => ?_))
          refine wp_of e214 c214_64 (rw_goto (p1 := 73) (by decide) ?_)
          refine wp_of e214 c214_73 (xc_V (pc' := 76) (r := r0) (as := [vI (H125476 r125541 (((40 * a1) + a2).toNat))]) (st := []) (lm_9_58) rfl rfl (Nat.le_of_ble_eq_true rfl) w125478 g0 sh_42 (by decide) rfl (by decide) (s_209 w125478 g0 ⟨by omega, by omega⟩) (fun R125546 T125547 H125548 p125549 => ?_))
          obtain ⟨e125550, w125552, f125553, z125554, e125551, b125555⟩ := p125549
          subst e125550
          subst e125551
          have f125556 := f125479.tr f125553 rfl
          show wp _ _ 214 76 [(0, .ref r0), (1, vI a1), (2, vI a2), (3, vI a3)] [vI z125554] _ H125548 _
          have k125557 : wKI H125548 r0 = wKI H r0 := ((wKI_fr w125478 g0 f125553 rfl).trans (wKI_fr hW g0 ((wfr.rf (l := [(42, 0)])).put' e125477 g0 rfl) rfl))
          exact wp_ireturn e214 c214_76 rfl ⟨rfl, w125552, f125556, z125554, rfl, ⟨by omega, by omega⟩, by omega⟩
      · refine wp_of e214 c214_34 (rw_aload_n (pc' := 35) (v := .ref r0) rfl rfl rfl ?_)
        refine wp_of e214 c214_35 (xg_R (pc' := 38) lf_9_24 w125478 g0 sh_42 (by decide) (by decide) ty_42_22 rfl rfl (fun r125558 q125559 g125560 => ?_))
        refine wp_of e214 c214_38 (rw_bipush (pc' := 40) (z := 40) rfl (by decide) ?_)
        refine wp_of e214 c214_40 (rw_iload_n (pc' := 41) (z := a1) rfl rfl ?_)
        refine wp_of e214 c214_41 (rw_imul (pc' := 42) rfl ?_)
        refine wp_of e214 c214_42 (rw_iload_n (pc' := 43) (z := a2) rfl rfl ?_)
        refine wp_of e214 c214_43 (rw_iadd (pc' := 44) rfl ?_)
        refine wp_of e214 c214_44 (xa_I (so := 0) (pc' := 45) w125478 g125560 sh_46 (by decide) (ty_46 _) (by omega) (by omega) rfl (fun b125561 b125562 => ?_))
        refine wp_of e214 c214_45 (rw_goto (p1 := 73) (by decide) ?_)
        refine wp_of e214 c214_73 (xc_V (pc' := 76) (r := r0) (as := [vI (H125476 r125558 (((40 * a1) + a2).toNat))]) (st := []) (lm_9_58) rfl rfl (Nat.le_of_ble_eq_true rfl) w125478 g0 sh_42 (by decide) rfl (by decide) (s_209 w125478 g0 ⟨by omega, by omega⟩) (fun R125563 T125564 H125565 p125566 => ?_))
        obtain ⟨e125567, w125569, f125570, z125571, e125568, b125572⟩ := p125566
        subst e125567
        subst e125568
        have f125573 := f125479.tr f125570 rfl
        show wp _ _ 214 76 [(0, .ref r0), (1, vI a1), (2, vI a2), (3, vI a3)] [vI z125571] _ H125565 _
        have k125574 : wKI H125565 r0 = wKI H r0 := ((wKI_fr w125478 g0 f125570 rfl).trans (wKI_fr hW g0 ((wfr.rf (l := [(42, 0)])).put' e125477 g0 rfl) rfl))
        exact wp_ireturn e214 c214_76 rfl ⟨rfl, w125569, f125573, z125571, rfl, ⟨by omega, by omega⟩, by omega⟩
    · refine wp_of e214 c214_23 (rw_aload_n (pc' := 24) (v := .ref r0) rfl rfl rfl ?_)
      refine wp_of e214 c214_24 (rw_iconst (pc' := 25) rfl ?_)
      refine wp_of e214 c214_25 (xc_V (pc' := 28) (r := r0) (as := [vI 1]) (st := []) (lm_9_54) rfl rfl (Nat.le_of_ble_eq_true rfl) w125478 g0 sh_42 (by decide) rfl (by decide) (s_170 w125478 g0 ⟨by omega, by omega⟩) (fun R125575 T125576 H125577 p125578 => ?_))
      obtain ⟨e125579, w125581, f125582, z125583, e125580, b125584⟩ := p125578
      subst e125579
      subst e125580
      have f125585 := f125479.tr f125582 rfl
      show wp _ _ 214 28 [(0, .ref r0), (1, vI a1), (2, vI a2), (3, vI a3)] [vI z125583] _ H125577 _
      have k125586 : wKI H125577 r0 = wKI H r0 := ((wKI_fr w125478 g0 f125582 rfl).trans (wKI_fr hW g0 ((wfr.rf (l := [(42, 0)])).put' e125477 g0 rfl) rfl))
      exact wp_ireturn e214 c214_28 rfl ⟨rfl, w125581, f125585, z125583, rfl, ⟨by omega, by omega⟩, by omega⟩
/-! StrikeAwakeModel.isHour(I)Z -/
theorem e218 : wq_en 218 = some (9, 2, false, some FieldType.boolean) := rfl
theorem c218_0 : mc_cd 218 0 = some (.aload_n 0, 1) := by decide +kernel
theorem c218_1 : mc_cd 218 1 = some (.getfield 337, 3) := by decide +kernel
theorem c218_4 : mc_cd 218 4 = some (.ifnull 22, 3) := by decide +kernel
theorem c218_7 : mc_cd 218 7 = some (.iload_n 1, 1) := by decide +kernel
theorem c218_8 : mc_cd 218 8 = some (.ifCond .lt 18, 3) := by decide +kernel
theorem c218_11 : mc_cd 218 11 = some (.iload_n 1, 1) := by decide +kernel
theorem c218_12 : mc_cd 218 12 = some (.aload_n 0, 1) := by decide +kernel
theorem c218_13 : mc_cd 218 13 = some (.getfield 337, 3) := by decide +kernel
theorem c218_16 : mc_cd 218 16 = some (.getfield 185, 3) := by decide +kernel
theorem c218_19 : mc_cd 218 19 = some (.if_icmp .ge 7, 3) := by decide +kernel
theorem c218_22 : mc_cd 218 22 = some (.iconst 1, 1) := by decide +kernel
theorem c218_23 : mc_cd 218 23 = some (.goto 4, 3) := by decide +kernel
theorem c218_26 : mc_cd 218 26 = some (.iconst 0, 1) := by decide +kernel
theorem c218_27 : mc_cd 218 27 = some (.ireturn, 1) := by decide +kernel
abbrev q_218 (r0 : Nat) (a1 : Int) (T : wq_T) (H : wq_H) : Option Value → wq_T → wq_H → Prop := fun r T' H' => T = T' ∧ H = H' ∧ ∃ z : Int, some (vI z) = r ∧ (0 ≤ z ∧ z ≤ 1) ∧ (z = 0 ∨ (H r0 3 ≠ -1 ∧ 0 ≤ a1 ∧ a1 ≤ 23))
set_option maxHeartbeats 4000000 in
theorem s_218 {kt : Nat → Option mc_E} {T : wq_T} {H : wq_H} {r0 : Nat} {a1 : Int} (hW : WT T H) (g0 : T.2.2.2 r0 = some 42) (i1 : (-2147483648) ≤ a1 ∧ a1 ≤ 2147483647) : wpc kt 1 218 [.ref r0, vI a1] T H (q_218 r0 a1 T H) := by
  refine wp_enter e218 (Nat.le_of_ble_eq_true rfl) rfl ?_
  show wp _ _ 218 0 [(0, .ref r0), (1, vI a1)] [] _ H _
  refine wp_of e218 c218_0 (rw_aload_n (pc' := 1) (v := .ref r0) rfl rfl rfl ?_)
  refine wp_of e218 c218_1 (xg_O (pc' := 4) lf_9_337 hW g0 sh_42 (by decide) (by decide) ty_42_3 rfl rfl (fun q125595 => ?_) (fun r125594 q125595 g125596 => ?_))
  · refine wp_of e218 c218_4 (rw_ifnull_n (p1 := 26) (p2 := 7) (by decide) rfl ?_)
    refine wp_of e218 c218_26 (rw_iconst (pc' := 27) rfl ?_)
    exact wp_zreturn e218 c218_27 rfl (by omega) ⟨rfl, rfl, 0, rfl, ⟨by omega, by omega⟩, by omega⟩
  · refine wp_of e218 c218_4 (rw_ifnull_r (p1 := 26) (p2 := 7) (by decide) rfl ?_)
    refine wp_of e218 c218_7 (rw_iload_n (pc' := 8) (z := a1) rfl rfl ?_)
    refine wp_of e218 c218_8 (rw_if_lt (p1 := 26) (p2 := 11) (by decide) rfl ⟨by omega, by omega⟩ (fun c125597 => ?_) (fun c125597 => ?_))
    · refine wp_of e218 c218_26 (rw_iconst (pc' := 27) rfl ?_)
      exact wp_zreturn e218 c218_27 rfl (by omega) ⟨rfl, rfl, 0, rfl, ⟨by omega, by omega⟩, by omega⟩
    · refine wp_of e218 c218_11 (rw_iload_n (pc' := 12) (z := a1) rfl rfl ?_)
      refine wp_of e218 c218_12 (rw_aload_n (pc' := 13) (v := .ref r0) rfl rfl rfl ?_)
      refine wp_of e218 c218_13 (xg_K (pc' := 16) lf_9_337 hW g0 sh_42 (by decide) (by decide) rfl q125595 rfl ?_)
      refine wp_of e218 c218_16 (xg_I (pc' := 19) lf_9_185 hW g125596 sh_54 (by decide) (by decide) ty_54_0 rfl rfl (fun b125598 b125599 => ?_))
      refine wp_of e218 c218_19 (rw_icmp_ge (p1 := 26) (p2 := 22) (by decide) rfl ⟨by omega, by omega⟩ ⟨by omega, by omega⟩ (fun c125600 => ?_) (fun c125600 => ?_))
      · refine wp_of e218 c218_26 (rw_iconst (pc' := 27) rfl ?_)
        exact wp_zreturn e218 c218_27 rfl (by omega) ⟨rfl, rfl, 0, rfl, ⟨by omega, by omega⟩, by omega⟩
      · refine wp_of e218 c218_22 (rw_iconst (pc' := 23) rfl ?_)
        refine wp_of e218 c218_23 (rw_goto (p1 := 27) (by decide) ?_)
        exact wp_zreturn e218 c218_27 rfl (by omega) ⟨rfl, rfl, 1, rfl, ⟨by omega, by omega⟩, by omega⟩
/-! StrikeAwakeModel.awake(III)I -/
theorem e217 : wq_en 217 = some (9, 4, false, some FieldType.int) := rfl
theorem c217_0 : mc_cd 217 0 = some (.aload_n 0, 1) := by decide +kernel
theorem c217_1 : mc_cd 217 1 = some (.iconst 0, 1) := by decide +kernel
theorem c217_2 : mc_cd 217 2 = some (.putfield 48, 3) := by decide +kernel
theorem c217_5 : mc_cd 217 5 = some (.aload_n 0, 1) := by decide +kernel
theorem c217_6 : mc_cd 217 6 = some (.iload_n 1, 1) := by decide +kernel
theorem c217_7 : mc_cd 217 7 = some (.iload_n 2, 1) := by decide +kernel
theorem c217_8 : mc_cd 217 8 = some (.invokevirtual 367, 3) := by decide +kernel
theorem c217_11 : mc_cd 217 11 = some (.ifCond .eq 41, 3) := by decide +kernel
theorem c217_14 : mc_cd 217 14 = some (.aload_n 0, 1) := by decide +kernel
theorem c217_15 : mc_cd 217 15 = some (.iload_n 3, 1) := by decide +kernel
theorem c217_16 : mc_cd 217 16 = some (.invokevirtual 373, 3) := by decide +kernel
theorem c217_19 : mc_cd 217 19 = some (.ifCond .eq 33, 3) := by decide +kernel
theorem c217_22 : mc_cd 217 22 = some (.aload_n 0, 1) := by decide +kernel
theorem c217_23 : mc_cd 217 23 = some (.aload_n 0, 1) := by decide +kernel
theorem c217_24 : mc_cd 217 24 = some (.getfield 33, 3) := by decide +kernel
theorem c217_27 : mc_cd 217 27 = some (.bipush 40, 2) := by decide +kernel
theorem c217_29 : mc_cd 217 29 = some (.iload_n 1, 1) := by decide +kernel
theorem c217_30 : mc_cd 217 30 = some (.imul, 1) := by decide +kernel
theorem c217_31 : mc_cd 217 31 = some (.iload_n 2, 1) := by decide +kernel
theorem c217_32 : mc_cd 217 32 = some (.iadd, 1) := by decide +kernel
theorem c217_33 : mc_cd 217 33 = some (.iaload, 1) := by decide +kernel
theorem c217_34 : mc_cd 217 34 = some (.iload_n 3, 1) := by decide +kernel
theorem c217_35 : mc_cd 217 35 = some (.invokestatic 346, 3) := by decide +kernel
theorem c217_38 : mc_cd 217 38 = some (.ifCond .eq 7, 3) := by decide +kernel
theorem c217_41 : mc_cd 217 41 = some (.iconst 1, 1) := by decide +kernel
theorem c217_42 : mc_cd 217 42 = some (.goto 4, 3) := by decide +kernel
theorem c217_45 : mc_cd 217 45 = some (.iconst 0, 1) := by decide +kernel
theorem c217_46 : mc_cd 217 46 = some (.invokevirtual 58, 3) := by decide +kernel
theorem c217_49 : mc_cd 217 49 = some (.goto 8, 3) := by decide +kernel
theorem c217_52 : mc_cd 217 52 = some (.aload_n 0, 1) := by decide +kernel
theorem c217_53 : mc_cd 217 53 = some (.iconst 1, 1) := by decide +kernel
theorem c217_54 : mc_cd 217 54 = some (.invokevirtual 54, 3) := by decide +kernel
theorem c217_57 : mc_cd 217 57 = some (.ireturn, 1) := by decide +kernel
abbrev q_217 (r0 : Nat) (a1 : Int) (a2 : Int) (a3 : Int) (T : wq_T) (H : wq_H) : Option Value → wq_T → wq_H → Prop := fun r T' H' => T = T' ∧ WT T H' ∧ wfr [(42, 0), (42, 1), (42, 2)] T H H' ∧ ∃ z : Int, some (vI z) = r ∧ ((-2147483648) ≤ z ∧ z ≤ 2147483647) ∧ (wKI H' r0 = 1)
set_option maxHeartbeats 4000000 in
theorem s_217 {kt : Nat → Option mc_E} {T : wq_T} {H : wq_H} {r0 : Nat} {a1 : Int} {a2 : Int} {a3 : Int} (hW : WT T H) (g0 : T.2.2.2 r0 = some 42) (i1 : (-2147483648) ≤ a1 ∧ a1 ≤ 2147483647) (i2 : (-2147483648) ≤ a2 ∧ a2 ≤ 2147483647) (i3 : (-2147483648) ≤ a3 ∧ a3 ≤ 2147483647) (p0 : wKI H r0 = 1) : wpc kt 3 217 [.ref r0, vI a1, vI a2, vI a3] T H (q_217 r0 a1 a2 a3 T H) := by
  refine wp_enter e217 (Nat.le_of_ble_eq_true rfl) rfl ?_
  have f0 : wfr [(42, 0), (42, 1), (42, 2)] T H H := wfr.rf
  show wp _ _ 217 0 [(0, .ref r0), (1, vI a1), (2, vI a2), (3, vI a3)] [] _ H _
  refine wp_of e217 c217_0 (rw_aload_n (pc' := 1) (v := .ref r0) rfl rfl rfl ?_)
  refine wp_of e217 c217_1 (rw_iconst (pc' := 2) rfl ?_)
  refine wp_of e217 c217_2 (xp_I (pc' := 5) lf_9_48 hW g0 sh_42 (by decide) (by decide) ty_42_0 rfl rfl (by omega) (by omega) ⟨by omega, by omega⟩ rfl (fun H125691 e125692 w125693 => ?_))
  have f125694 := f0.put' e125692 g0 rfl
  have k125695 : H125691 r0 0 = 0 := wq_u_s e125692
  refine wp_of e217 c217_5 (rw_aload_n (pc' := 6) (v := .ref r0) rfl rfl rfl ?_)
  refine wp_of e217 c217_6 (rw_iload_n (pc' := 7) (z := a1) rfl rfl ?_)
  refine wp_of e217 c217_7 (rw_iload_n (pc' := 8) (z := a2) rfl rfl ?_)
  refine wp_of e217 c217_8 (xc_V (pc' := 11) (r := r0) (as := [vI a1, vI a2]) (st := []) (lm_9_367) rfl rfl (Nat.le_of_ble_eq_true rfl) w125693 g0 sh_42 (by decide) rfl (by decide) (s_215 w125693 g0 ⟨by omega, by omega⟩ ⟨by omega, by omega⟩) (fun R125696 T125697 H125698 p125699 => ?_))
  obtain ⟨e125700, e125702, z125704, e125701, b125705, p125703⟩ := p125699
  subst e125700
  subst e125701
  subst e125702
  show wp _ _ 217 11 [(0, .ref r0), (1, vI a1), (2, vI a2), (3, vI a3)] [vI z125704] _ H125691 _
  refine wp_of e217 c217_11 (rw_if_eq (p1 := 52) (p2 := 14) (by decide) rfl ⟨by omega, by omega⟩ (fun c125706 => ?_) (fun c125706 => ?_))
  · refine wp_of e217 c217_52 (rw_aload_n (pc' := 53) (v := .ref r0) rfl rfl rfl ?_)
    refine wp_of e217 c217_53 (rw_iconst (pc' := 54) rfl ?_)
    refine wp_of e217 c217_54 (xc_V (pc' := 57) (r := r0) (as := [vI 1]) (st := []) (lm_9_54) rfl rfl (Nat.le_of_ble_eq_true rfl) w125693 g0 sh_42 (by decide) rfl (by decide) (s_170 w125693 g0 ⟨by omega, by omega⟩) (fun R125707 T125708 H125709 p125710 => ?_))
    obtain ⟨e125711, w125713, f125714, z125715, e125712, b125716⟩ := p125710
    subst e125711
    subst e125712
    have f125717 := f125694.tr f125714 rfl
    show wp _ _ 217 57 [(0, .ref r0), (1, vI a1), (2, vI a2), (3, vI a3)] [vI z125715] _ H125709 _
    have k125718 : wKI H125709 r0 = wKI H r0 := ((wKI_fr w125693 g0 f125714 rfl).trans (wKI_fr hW g0 ((wfr.rf (l := [(42, 0)])).put' e125692 g0 rfl) rfl))
    exact wp_ireturn e217 c217_57 rfl ⟨rfl, w125713, f125717, z125715, rfl, ⟨by omega, by omega⟩, by omega⟩
  · refine wp_of e217 c217_14 (rw_aload_n (pc' := 15) (v := .ref r0) rfl rfl rfl ?_)
    refine wp_of e217 c217_15 (rw_iload_n (pc' := 16) (z := a3) rfl rfl ?_)
    refine wp_of e217 c217_16 (xc_V (pc' := 19) (r := r0) (as := [vI a3]) (st := []) (lm_9_373) rfl rfl (Nat.le_of_ble_eq_true rfl) w125693 g0 sh_42 (by decide) rfl (by decide) (s_218 w125693 g0 ⟨by omega, by omega⟩) (fun R125719 T125720 H125721 p125722 => ?_))
    obtain ⟨e125723, e125725, z125727, e125724, b125728, p125726⟩ := p125722
    subst e125723
    subst e125724
    subst e125725
    show wp _ _ 217 19 [(0, .ref r0), (1, vI a1), (2, vI a2), (3, vI a3)] [vI z125727] _ H125691 _
    refine wp_of e217 c217_19 (rw_if_eq (p1 := 52) (p2 := 22) (by decide) rfl ⟨by omega, by omega⟩ (fun c125729 => ?_) (fun c125729 => ?_))
    · refine wp_of e217 c217_52 (rw_aload_n (pc' := 53) (v := .ref r0) rfl rfl rfl ?_)
      refine wp_of e217 c217_53 (rw_iconst (pc' := 54) rfl ?_)
      refine wp_of e217 c217_54 (xc_V (pc' := 57) (r := r0) (as := [vI 1]) (st := []) (lm_9_54) rfl rfl (Nat.le_of_ble_eq_true rfl) w125693 g0 sh_42 (by decide) rfl (by decide) (s_170 w125693 g0 ⟨by omega, by omega⟩) (fun R125730 T125731 H125732 p125733 => ?_))
      obtain ⟨e125734, w125736, f125737, z125738, e125735, b125739⟩ := p125733
      subst e125734
      subst e125735
      have f125740 := f125694.tr f125737 rfl
      show wp _ _ 217 57 [(0, .ref r0), (1, vI a1), (2, vI a2), (3, vI a3)] [vI z125738] _ H125732 _
      have k125741 : wKI H125732 r0 = wKI H r0 := ((wKI_fr w125693 g0 f125737 rfl).trans (wKI_fr hW g0 ((wfr.rf (l := [(42, 0)])).put' e125692 g0 rfl) rfl))
      exact wp_ireturn e217 c217_57 rfl ⟨rfl, w125736, f125740, z125738, rfl, ⟨by omega, by omega⟩, by omega⟩
    · refine wp_of e217 c217_22 (rw_aload_n (pc' := 23) (v := .ref r0) rfl rfl rfl ?_)
      refine wp_of e217 c217_23 (rw_aload_n (pc' := 24) (v := .ref r0) rfl rfl rfl ?_)
      refine wp_of e217 c217_24 (xg_R (pc' := 27) lf_9_33 w125693 g0 sh_42 (by decide) (by decide) ty_42_25 rfl rfl (fun r125742 q125743 g125744 => ?_))
      refine wp_of e217 c217_27 (rw_bipush (pc' := 29) (z := 40) rfl (by decide) ?_)
      refine wp_of e217 c217_29 (rw_iload_n (pc' := 30) (z := a1) rfl rfl ?_)
      refine wp_of e217 c217_30 (rw_imul (pc' := 31) rfl ?_)
      refine wp_of e217 c217_31 (rw_iload_n (pc' := 32) (z := a2) rfl rfl ?_)
      refine wp_of e217 c217_32 (rw_iadd (pc' := 33) rfl ?_)
      refine wp_of e217 c217_33 (xa_I (so := 0) (pc' := 34) w125693 g125744 sh_49 (by decide) (ty_49 _) (by omega) (by omega) rfl (fun b125745 b125746 => ?_))
      refine wp_of e217 c217_34 (rw_iload_n (pc' := 35) (z := a3) rfl rfl ?_)
      refine wp_of e217 c217_35 (xc_S (pc' := 38) (as := [vI (H125691 r125742 (((40 * a1) + a2).toNat)), vI a3]) (st := [.ref r0]) (lm_9_346) rfl rfl (Nat.le_of_ble_eq_true rfl) rfl (by decide) (s_205 w125693 ⟨by omega, by omega⟩ ⟨by omega, by omega⟩) (fun R125747 T125748 H125749 p125750 => ?_))
      obtain ⟨e125751, e125753, z125754, e125752, b125755⟩ := p125750
      subst e125751
      subst e125752
      subst e125753
      show wp _ _ 217 38 [(0, .ref r0), (1, vI a1), (2, vI a2), (3, vI a3)] [vI z125754, .ref r0] _ H125691 _
      refine wp_of e217 c217_38 (rw_if_eq (p1 := 45) (p2 := 41) (by decide) rfl ⟨by omega, by omega⟩ (fun c125756 => ?_) (fun c125756 => ?_))
      · refine wp_of e217 c217_45 (rw_iconst (pc' := 46) rfl ?_)
        refine wp_of e217 c217_46 (xc_V (pc' := 49) (r := r0) (as := [vI 0]) (st := []) (lm_9_58) rfl rfl (Nat.le_of_ble_eq_true rfl) w125693 g0 sh_42 (by decide) rfl (by decide) (s_209 w125693 g0 ⟨by omega, by omega⟩) (fun R125757 T125758 H125759 p125760 => ?_))
        obtain ⟨e125761, w125763, f125764, z125765, e125762, b125766⟩ := p125760
        subst e125761
        subst e125762
        have f125767 := f125694.tr f125764 rfl
        show wp _ _ 217 49 [(0, .ref r0), (1, vI a1), (2, vI a2), (3, vI a3)] [vI z125765] _ H125759 _
        refine wp_of e217 c217_49 (rw_goto (p1 := 57) (by decide) ?_)
        have k125768 : wKI H125759 r0 = wKI H r0 := ((wKI_fr w125693 g0 f125764 rfl).trans (wKI_fr hW g0 ((wfr.rf (l := [(42, 0)])).put' e125692 g0 rfl) rfl))
        exact wp_ireturn e217 c217_57 rfl ⟨rfl, w125763, f125767, z125765, rfl, ⟨by omega, by omega⟩, by omega⟩
      · refine wp_of e217 c217_41 (rw_iconst (pc' := 42) rfl ?_)
        refine wp_of e217 c217_42 (rw_goto (p1 := 46) (by decide) ?_)
        refine wp_of e217 c217_46 (xc_V (pc' := 49) (r := r0) (as := [vI 1]) (st := []) (lm_9_58) rfl rfl (Nat.le_of_ble_eq_true rfl) w125693 g0 sh_42 (by decide) rfl (by decide) (s_209 w125693 g0 ⟨by omega, by omega⟩) (fun R125769 T125770 H125771 p125772 => ?_))
        obtain ⟨e125773, w125775, f125776, z125777, e125774, b125778⟩ := p125772
        subst e125773
        subst e125774
        have f125779 := f125694.tr f125776 rfl
        show wp _ _ 217 49 [(0, .ref r0), (1, vI a1), (2, vI a2), (3, vI a3)] [vI z125777] _ H125771 _
        refine wp_of e217 c217_49 (rw_goto (p1 := 57) (by decide) ?_)
        have k125780 : wKI H125771 r0 = wKI H r0 := ((wKI_fr w125693 g0 f125776 rfl).trans (wKI_fr hW g0 ((wfr.rf (l := [(42, 0)])).put' e125692 g0 rfl) rfl))
        exact wp_ireturn e217 c217_57 rfl ⟨rfl, w125775, f125779, z125777, rfl, ⟨by omega, by omega⟩, by omega⟩
/-! StrikeAwakeModel.lotsMany()J -/
theorem e220 : wq_en 220 = some (9, 4, false, some FieldType.long) := rfl
theorem c220_0 : mc_cd 220 0 = some (.lconst 1, 1) := by decide +kernel
theorem c220_1 : mc_cd 220 1 = some (.lstore_n 1, 1) := by decide +kernel
theorem c220_2 : mc_cd 220 2 = some (.iconst 0, 1) := by decide +kernel
theorem c220_3 : mc_cd 220 3 = some (.istore_n 3, 1) := by decide +kernel
theorem c220_4 : mc_cd 220 4 = some (.iload_n 3, 1) := by decide +kernel
theorem c220_5 : mc_cd 220 5 = some (.aload_n 0, 1) := by decide +kernel
theorem c220_6 : mc_cd 220 6 = some (.getfield 337, 3) := by decide +kernel
theorem c220_9 : mc_cd 220 9 = some (.getfield 188, 3) := by decide +kernel
theorem c220_12 : mc_cd 220 12 = some (.if_icmp .ge 19, 3) := by decide +kernel
theorem c220_15 : mc_cd 220 15 = some (.lload_n 1, 1) := by decide +kernel
theorem c220_16 : mc_cd 220 16 = some (.aload_n 0, 1) := by decide +kernel
theorem c220_17 : mc_cd 220 17 = some (.getfield 21, 3) := by decide +kernel
theorem c220_20 : mc_cd 220 20 = some (.iload_n 3, 1) := by decide +kernel
theorem c220_21 : mc_cd 220 21 = some (.iaload, 1) := by decide +kernel
theorem c220_22 : mc_cd 220 22 = some (.i2l, 1) := by decide +kernel
theorem c220_23 : mc_cd 220 23 = some (.lmul, 1) := by decide +kernel
theorem c220_24 : mc_cd 220 24 = some (.lstore_n 1, 1) := by decide +kernel
theorem c220_25 : mc_cd 220 25 = some (.iinc 3 1, 3) := by decide +kernel
theorem c220_28 : mc_cd 220 28 = some (.goto (-24), 3) := by decide +kernel
theorem c220_31 : mc_cd 220 31 = some (.lload_n 1, 1) := by decide +kernel
theorem c220_32 : mc_cd 220 32 = some (.lreturn, 1) := by decide +kernel
abbrev q_220 (r0 : Nat) (pp : Nat) (T : wq_T) (H : wq_H) : Option Value → wq_T → wq_H → Prop := fun r T' H' => T = T' ∧ H = H' ∧ ∃ z : Int, some (vL z) = r ∧ (0 ≤ z ∧ z ≤ 4096000000) ∧ (z = wLM H r0)
set_option maxHeartbeats 4000000 in
theorem s_220 {kt : Nat → Option mc_E} {T : wq_T} {H : wq_H} {r0 : Nat} {pp : Nat} (hW : WT T H) (g0 : T.2.2.2 r0 = some 42) (qpp : H r0 3 = (pp : Int)) (gpp : T.2.2.2 pp = some 54) : wpc kt 1 220 [.ref r0] T H (q_220 r0 pp T H) := by
  refine wp_enter e220 (Nat.le_of_ble_eq_true rfl) rfl ?_
  show wp _ _ 220 0 [(0, .ref r0)] [] _ H _
  refine wp_of e220 c220_0 (rw_lconst (pc' := 1) (z := 1) rfl rfl ?_)
  refine wp_of e220 c220_1 (rw_lstore_n (pc' := 2) (z := 1) (L' := [(1, vL 1), (0, .ref r0)]) rfl rfl rfl ?_)
  refine wp_of e220 c220_2 (rw_iconst (pc' := 3) rfl ?_)
  refine wp_of e220 c220_3 (rw_istore_n (pc' := 4) (z := 0) (L' := [(3, vI 0), (1, vL 1), (0, .ref r0)]) rfl rfl rfl ?_)
  obtain ⟨r125961, q125962, g125963⟩ := hW.ref g0 (t' := 45) (n := 33) (j := 21) (p := 0) (q := 0) rfl (by decide) rfl
  have lp125956 : ∀ (n125957 : Nat) (v125959 : Int) (v125960 : Int), (0 ≤ v125959 ∧ v125959 ≤ 6) → (0 ≤ v125960 ∧ v125960 ≤ 4096000000) → (v125959 ≤ H pp 3) → (v125960 = wpr (H r125961) (v125959).toNat) → (6 - v125959).toNat = n125957 → wp kt 0 220 4 [(3, vI v125959), (1, vL v125960), (0, .ref r0)] [] T H (q_220 r0 pp T H) := by
    intro n125957
    induction n125957 using Nat.strongRecOn with
    | _ n125957 ih125958 =>
      intro v125959 v125960 b125966 b125967 x125968 x125969 m125970
      have hx : H pp 3 = v125959 → v125960 = wLM H r0 := fun q => by
        rw [wLM_eq qpp q125962, q]
        assumption
      have hb := (wpr_b (f := H r125961) (fun j hj => hW.box g125963 (n := 6) rfl hj rfl) (v125959).toNat (by omega)).2
      have hc := w40 (n := (v125959).toNat) (by omega)
      refine wp_of e220 c220_4 (rw_iload_n (pc' := 5) (z := v125959) rfl rfl ?_)
      refine wp_of e220 c220_5 (rw_aload_n (pc' := 6) (v := .ref r0) rfl rfl rfl ?_)
      refine wp_of e220 c220_6 (xg_K (pc' := 9) lf_9_337 hW g0 sh_42 (by decide) (by decide) rfl qpp rfl ?_)
      refine wp_of e220 c220_9 (xg_I (pc' := 12) lf_9_188 hW gpp sh_54 (by decide) (by decide) ty_54_3 rfl rfl (fun b125971 b125972 => ?_))
      refine wp_of e220 c220_12 (rw_icmp_ge (p1 := 31) (p2 := 15) (by decide) rfl ⟨by omega, by omega⟩ ⟨by omega, by omega⟩ (fun c125973 => ?_) (fun c125973 => ?_))
      · refine wp_of e220 c220_31 (rw_lload_n (pc' := 32) (z := v125960) rfl rfl ?_)
        exact wp_lreturn e220 c220_32 rfl ⟨rfl, rfl, v125960, rfl, ⟨by omega, by omega⟩, by omega⟩
      · refine wp_of e220 c220_15 (rw_lload_n (pc' := 16) (z := v125960) rfl rfl ?_)
        refine wp_of e220 c220_16 (rw_aload_n (pc' := 17) (v := .ref r0) rfl rfl rfl ?_)
        refine wp_of e220 c220_17 (xg_K (pc' := 20) lf_9_21 hW g0 sh_42 (by decide) (by decide) rfl q125962 rfl ?_)
        refine wp_of e220 c220_20 (rw_iload_n (pc' := 21) (z := v125959) rfl rfl ?_)
        refine wp_of e220 c220_21 (xa_I (so := 0) (pc' := 22) hW g125963 sh_45 (by decide) (ty_45 _) (by omega) (by omega) rfl (fun b125974 b125975 => ?_))
        refine wp_of e220 c220_22 (rw_i2l (pc' := 23) rfl ⟨by omega, by omega⟩ ?_)
        refine wp_of e220 c220_23 (rw_lmul (pc' := 24) rfl ?_)
        obtain ⟨v125976, e125977⟩ : ∃ x : Int, x = v125960 * (H r125961 (v125959.toNat)) := ⟨_, rfl⟩
        rw [← e125977]
        have b125978 : 0 ≤ v125976 ∧ v125976 ≤ 163840000000 := by
          rw [e125977]
          exact wl_mul_b (a := 4096000000) (b := 40) ⟨by omega, by omega⟩ ⟨by omega, by omega⟩
        refine wp_of e220 c220_24 (rw_lstore_n (pc' := 25) (z := v125976) (L' := [(1, vL v125976), (3, vI v125959), (0, .ref r0)]) rfl rfl rfl ?_)
        refine wp_of e220 c220_25 (rw_iinc (pc' := 28) (z := v125959) (L' := [(3, vI (v125959 + 1)), (1, vL v125976), (0, .ref r0)]) rfl rfl rfl rfl ?_)
        refine wp_of e220 c220_28 (rw_goto (p1 := 4) (by decide) ?_)
        exact wp_lc (ks := [3, 1, 0]) (wl_c rfl (wl_c rfl (wl_c rfl wl_n))) rfl (by decide) (ih125958 _ (by omega) (v125959 + 1) v125976 ⟨by omega, by omega⟩ ⟨by omega, by omega⟩ (by omega) (wpr_s (by assumption) (by assumption) (by omega)) rfl)
  exact wp_lc (ks := [3, 1, 0]) (wl_c rfl (wl_c rfl (wl_c rfl wl_n))) rfl (by decide) (lp125956 _ 0 1 ⟨by omega, by omega⟩ ⟨by omega, by omega⟩ (by omega) (rfl) rfl)
/-! StrikeAwakeModel.doneLong(J)J -/
theorem e221 : wq_en 221 = some (9, 3, false, some FieldType.long) := rfl
theorem c221_0 : mc_cd 221 0 = some (.aload_n 0, 1) := by decide +kernel
theorem c221_1 : mc_cd 221 1 = some (.iconst 0, 1) := by decide +kernel
theorem c221_2 : mc_cd 221 2 = some (.invokevirtual 58, 3) := by decide +kernel
theorem c221_5 : mc_cd 221 5 = some (.pop, 1) := by decide +kernel
theorem c221_6 : mc_cd 221 6 = some (.lload_n 1, 1) := by decide +kernel
theorem c221_7 : mc_cd 221 7 = some (.lreturn, 1) := by decide +kernel
abbrev q_221 (r0 : Nat) (a1 : Int) (T : wq_T) (H : wq_H) : Option Value → wq_T → wq_H → Prop := fun r T' H' => T = T' ∧ WT T H' ∧ wfr [(42, 1), (42, 2)] T H H' ∧ ∃ z : Int, some (vL z) = r ∧ ((-9223372036854775808) ≤ z ∧ z ≤ 9223372036854775807)
set_option maxHeartbeats 4000000 in
theorem s_221 {kt : Nat → Option mc_E} {T : wq_T} {H : wq_H} {r0 : Nat} {a1 : Int} (hW : WT T H) (g0 : T.2.2.2 r0 = some 42) (i1 : (-9223372036854775808) ≤ a1 ∧ a1 ≤ 9223372036854775807) : wpc kt 2 221 [.ref r0, vL a1] T H (q_221 r0 a1 T H) := by
  refine wp_enter e221 (Nat.le_of_ble_eq_true rfl) rfl ?_
  have f0 : wfr [(42, 1), (42, 2)] T H H := wfr.rf
  show wp _ _ 221 0 [(0, .ref r0), (1, vL a1)] [] _ H _
  refine wp_of e221 c221_0 (rw_aload_n (pc' := 1) (v := .ref r0) rfl rfl rfl ?_)
  refine wp_of e221 c221_1 (rw_iconst (pc' := 2) rfl ?_)
  refine wp_of e221 c221_2 (xc_V (pc' := 5) (r := r0) (as := [vI 0]) (st := []) (lm_9_58) rfl rfl (Nat.le_of_ble_eq_true rfl) hW g0 sh_42 (by decide) rfl (by decide) (s_209 hW g0 ⟨by omega, by omega⟩) (fun R125990 T125991 H125992 p125993 => ?_))
  obtain ⟨e125994, w125996, f125997, z125998, e125995, b125999⟩ := p125993
  subst e125994
  subst e125995
  have f126000 := f0.tr f125997 rfl
  show wp _ _ 221 5 [(0, .ref r0), (1, vL a1)] [vI z125998] _ H125992 _
  refine wp_of e221 c221_5 (rw_pop (pc' := 6) rfl rfl ?_)
  refine wp_of e221 c221_6 (rw_lload_n (pc' := 7) (z := a1) rfl rfl ?_)
  exact wp_lreturn e221 c221_7 rfl ⟨rfl, w125996, f126000, a1, rfl, ⟨by omega, by omega⟩⟩
/-! StrikeAwakeModel.lots()J -/
theorem e219 : wq_en 219 = some (9, 1, false, some FieldType.long) := rfl
theorem c219_0 : mc_cd 219 0 = some (.aload_n 0, 1) := by decide +kernel
theorem c219_1 : mc_cd 219 1 = some (.iconst 0, 1) := by decide +kernel
theorem c219_2 : mc_cd 219 2 = some (.putfield 48, 3) := by decide +kernel
theorem c219_5 : mc_cd 219 5 = some (.aload_n 0, 1) := by decide +kernel
theorem c219_6 : mc_cd 219 6 = some (.getfield 337, 3) := by decide +kernel
theorem c219_9 : mc_cd 219 9 = some (.ifnonnull 12, 3) := by decide +kernel
theorem c219_12 : mc_cd 219 12 = some (.aload_n 0, 1) := by decide +kernel
theorem c219_13 : mc_cd 219 13 = some (.iconst 1, 1) := by decide +kernel
theorem c219_14 : mc_cd 219 14 = some (.invokevirtual 54, 3) := by decide +kernel
theorem c219_17 : mc_cd 219 17 = some (.i2l, 1) := by decide +kernel
theorem c219_18 : mc_cd 219 18 = some (.goto 11, 3) := by decide +kernel
theorem c219_21 : mc_cd 219 21 = some (.aload_n 0, 1) := by decide +kernel
theorem c219_22 : mc_cd 219 22 = some (.aload_n 0, 1) := by decide +kernel
theorem c219_23 : mc_cd 219 23 = some (.invokevirtual 376, 3) := by decide +kernel
theorem c219_26 : mc_cd 219 26 = some (.invokevirtual 380, 3) := by decide +kernel
theorem c219_29 : mc_cd 219 29 = some (.lreturn, 1) := by decide +kernel
abbrev q_219 (r0 : Nat) (T : wq_T) (H : wq_H) : Option Value → wq_T → wq_H → Prop := fun r T' H' => T = T' ∧ WT T H' ∧ wfr [(42, 0), (42, 1), (42, 2)] T H H' ∧ ∃ z : Int, some (vL z) = r ∧ ((-9223372036854775808) ≤ z ∧ z ≤ 9223372036854775807) ∧ (wKI H' r0 = 1)
set_option maxHeartbeats 4000000 in
theorem s_219 {kt : Nat → Option mc_E} {T : wq_T} {H : wq_H} {r0 : Nat} (hW : WT T H) (g0 : T.2.2.2 r0 = some 42) (p0 : wKI H r0 = 1) : wpc kt 3 219 [.ref r0] T H (q_219 r0 T H) := by
  refine wp_enter e219 (Nat.le_of_ble_eq_true rfl) rfl ?_
  have f0 : wfr [(42, 0), (42, 1), (42, 2)] T H H := wfr.rf
  show wp _ _ 219 0 [(0, .ref r0)] [] _ H _
  refine wp_of e219 c219_0 (rw_aload_n (pc' := 1) (v := .ref r0) rfl rfl rfl ?_)
  refine wp_of e219 c219_1 (rw_iconst (pc' := 2) rfl ?_)
  refine wp_of e219 c219_2 (xp_I (pc' := 5) lf_9_48 hW g0 sh_42 (by decide) (by decide) ty_42_0 rfl rfl (by omega) (by omega) ⟨by omega, by omega⟩ rfl (fun H126043 e126044 w126045 => ?_))
  have f126046 := f0.put' e126044 g0 rfl
  have k126047 : H126043 r0 0 = 0 := wq_u_s e126044
  refine wp_of e219 c219_5 (rw_aload_n (pc' := 6) (v := .ref r0) rfl rfl rfl ?_)
  refine wp_of e219 c219_6 (xg_O (pc' := 9) lf_9_337 w126045 g0 sh_42 (by decide) (by decide) ty_42_3 rfl rfl (fun q126049 => ?_) (fun r126048 q126049 g126050 => ?_))
  · refine wp_of e219 c219_9 (rw_ifnonnull_n (p1 := 21) (p2 := 12) (by decide) rfl ?_)
    refine wp_of e219 c219_12 (rw_aload_n (pc' := 13) (v := .ref r0) rfl rfl rfl ?_)
    refine wp_of e219 c219_13 (rw_iconst (pc' := 14) rfl ?_)
    refine wp_of e219 c219_14 (xc_V (pc' := 17) (r := r0) (as := [vI 1]) (st := []) (lm_9_54) rfl rfl (Nat.le_of_ble_eq_true rfl) w126045 g0 sh_42 (by decide) rfl (by decide) (s_170 w126045 g0 ⟨by omega, by omega⟩) (fun R126051 T126052 H126053 p126054 => ?_))
    obtain ⟨e126055, w126057, f126058, z126059, e126056, b126060⟩ := p126054
    subst e126055
    subst e126056
    have f126061 := f126046.tr f126058 rfl
    show wp _ _ 219 17 [(0, .ref r0)] [vI z126059] _ H126053 _
    refine wp_of e219 c219_17 (rw_i2l (pc' := 18) rfl ⟨by omega, by omega⟩ ?_)
    refine wp_of e219 c219_18 (rw_goto (p1 := 29) (by decide) ?_)
    have k126062 : wKI H126053 r0 = wKI H r0 := ((wKI_fr w126045 g0 f126058 rfl).trans (wKI_fr hW g0 ((wfr.rf (l := [(42, 0)])).put' e126044 g0 rfl) rfl))
    exact wp_lreturn e219 c219_29 rfl ⟨rfl, w126057, f126061, z126059, rfl, ⟨by omega, by omega⟩, by omega⟩
  · refine wp_of e219 c219_9 (rw_ifnonnull_r (p1 := 21) (p2 := 12) (by decide) rfl ?_)
    refine wp_of e219 c219_21 (rw_aload_n (pc' := 22) (v := .ref r0) rfl rfl rfl ?_)
    refine wp_of e219 c219_22 (rw_aload_n (pc' := 23) (v := .ref r0) rfl rfl rfl ?_)
    refine wp_of e219 c219_23 (xc_V (pc' := 26) (r := r0) (as := []) (st := [.ref r0]) (lm_9_376) rfl rfl (Nat.le_of_ble_eq_true rfl) w126045 g0 sh_42 (by decide) rfl (by decide) (s_220 w126045 g0 q126049 g126050) (fun R126063 T126064 H126065 p126066 => ?_))
    obtain ⟨e126067, e126069, z126071, e126068, b126072, p126070⟩ := p126066
    subst e126067
    subst e126068
    subst e126069
    show wp _ _ 219 26 [(0, .ref r0)] [vL z126071, .ref r0] _ H126043 _
    refine wp_of e219 c219_26 (xc_V (pc' := 29) (r := r0) (as := [vL z126071]) (st := []) (lm_9_380) rfl rfl (Nat.le_of_ble_eq_true rfl) w126045 g0 sh_42 (by decide) rfl (by decide) (s_221 w126045 g0 ⟨by omega, by omega⟩) (fun R126073 T126074 H126075 p126076 => ?_))
    obtain ⟨e126077, w126079, f126080, z126081, e126078, b126082⟩ := p126076
    subst e126077
    subst e126078
    have f126083 := f126046.tr f126080 rfl
    show wp _ _ 219 29 [(0, .ref r0)] [vL z126081] _ H126075 _
    have k126084 : wKI H126075 r0 = wKI H r0 := ((wKI_fr w126045 g0 f126080 rfl).trans (wKI_fr hW g0 ((wfr.rf (l := [(42, 0)])).put' e126044 g0 rfl) rfl))
    exact wp_lreturn e219 c219_29 rfl ⟨rfl, w126079, f126083, z126081, rfl, ⟨by omega, by omega⟩, by omega⟩
/-! StrikeAwakeModel.denied(I)Z -/
theorem e223 : wq_en 223 = some (9, 2, false, some FieldType.boolean) := rfl
theorem c223_0 : mc_cd 223 0 = some (.aload_n 0, 1) := by decide +kernel
theorem c223_1 : mc_cd 223 1 = some (.iload_n 1, 1) := by decide +kernel
theorem c223_2 : mc_cd 223 2 = some (.invokevirtual 54, 3) := by decide +kernel
theorem c223_5 : mc_cd 223 5 = some (.pop, 1) := by decide +kernel
theorem c223_6 : mc_cd 223 6 = some (.iconst 0, 1) := by decide +kernel
theorem c223_7 : mc_cd 223 7 = some (.ireturn, 1) := by decide +kernel
abbrev q_223 (r0 : Nat) (a1 : Int) (T : wq_T) (H : wq_H) : Option Value → wq_T → wq_H → Prop := fun r T' H' => T = T' ∧ WT T H' ∧ wfr [(42, 1), (42, 2)] T H H' ∧ ∃ z : Int, some (vI z) = r ∧ (0 ≤ z ∧ z ≤ 1)
set_option maxHeartbeats 4000000 in
theorem s_223 {kt : Nat → Option mc_E} {T : wq_T} {H : wq_H} {r0 : Nat} {a1 : Int} (hW : WT T H) (g0 : T.2.2.2 r0 = some 42) (i1 : (-2147483648) ≤ a1 ∧ a1 ≤ 2147483647) : wpc kt 2 223 [.ref r0, vI a1] T H (q_223 r0 a1 T H) := by
  refine wp_enter e223 (Nat.le_of_ble_eq_true rfl) rfl ?_
  have f0 : wfr [(42, 1), (42, 2)] T H H := wfr.rf
  show wp _ _ 223 0 [(0, .ref r0), (1, vI a1)] [] _ H _
  refine wp_of e223 c223_0 (rw_aload_n (pc' := 1) (v := .ref r0) rfl rfl rfl ?_)
  refine wp_of e223 c223_1 (rw_iload_n (pc' := 2) (z := a1) rfl rfl ?_)
  refine wp_of e223 c223_2 (xc_V (pc' := 5) (r := r0) (as := [vI a1]) (st := []) (lm_9_54) rfl rfl (Nat.le_of_ble_eq_true rfl) hW g0 sh_42 (by decide) rfl (by decide) (s_170 hW g0 ⟨by omega, by omega⟩) (fun R126096 T126097 H126098 p126099 => ?_))
  obtain ⟨e126100, w126102, f126103, z126104, e126101, b126105⟩ := p126099
  subst e126100
  subst e126101
  have f126106 := f0.tr f126103 rfl
  show wp _ _ 223 5 [(0, .ref r0), (1, vI a1)] [vI z126104] _ H126098 _
  refine wp_of e223 c223_5 (rw_pop (pc' := 6) rfl rfl ?_)
  refine wp_of e223 c223_6 (rw_iconst (pc' := 7) rfl ?_)
  exact wp_zreturn e223 c223_7 rfl (by omega) ⟨rfl, w126102, f126106, 0, rfl, ⟨by omega, by omega⟩⟩
/-! StrikeAwakeModel.granted()Z -/
theorem e224 : wq_en 224 = some (9, 1, false, some FieldType.boolean) := rfl
theorem c224_0 : mc_cd 224 0 = some (.aload_n 0, 1) := by decide +kernel
theorem c224_1 : mc_cd 224 1 = some (.iconst 0, 1) := by decide +kernel
theorem c224_2 : mc_cd 224 2 = some (.invokevirtual 58, 3) := by decide +kernel
theorem c224_5 : mc_cd 224 5 = some (.pop, 1) := by decide +kernel
theorem c224_6 : mc_cd 224 6 = some (.iconst 1, 1) := by decide +kernel
theorem c224_7 : mc_cd 224 7 = some (.ireturn, 1) := by decide +kernel
abbrev q_224 (r0 : Nat) (T : wq_T) (H : wq_H) : Option Value → wq_T → wq_H → Prop := fun r T' H' => T = T' ∧ WT T H' ∧ wfr [(42, 1), (42, 2)] T H H' ∧ ∃ z : Int, some (vI z) = r ∧ (0 ≤ z ∧ z ≤ 1)
set_option maxHeartbeats 4000000 in
theorem s_224 {kt : Nat → Option mc_E} {T : wq_T} {H : wq_H} {r0 : Nat} (hW : WT T H) (g0 : T.2.2.2 r0 = some 42) : wpc kt 2 224 [.ref r0] T H (q_224 r0 T H) := by
  refine wp_enter e224 (Nat.le_of_ble_eq_true rfl) rfl ?_
  have f0 : wfr [(42, 1), (42, 2)] T H H := wfr.rf
  show wp _ _ 224 0 [(0, .ref r0)] [] _ H _
  refine wp_of e224 c224_0 (rw_aload_n (pc' := 1) (v := .ref r0) rfl rfl rfl ?_)
  refine wp_of e224 c224_1 (rw_iconst (pc' := 2) rfl ?_)
  refine wp_of e224 c224_2 (xc_V (pc' := 5) (r := r0) (as := [vI 0]) (st := []) (lm_9_58) rfl rfl (Nat.le_of_ble_eq_true rfl) hW g0 sh_42 (by decide) rfl (by decide) (s_209 hW g0 ⟨by omega, by omega⟩) (fun R126118 T126119 H126120 p126121 => ?_))
  obtain ⟨e126122, w126124, f126125, z126126, e126123, b126127⟩ := p126121
  subst e126122
  subst e126123
  have f126128 := f0.tr f126125 rfl
  show wp _ _ 224 5 [(0, .ref r0)] [vI z126126] _ H126120 _
  refine wp_of e224 c224_5 (rw_pop (pc' := 6) rfl rfl ?_)
  refine wp_of e224 c224_6 (rw_iconst (pc' := 7) rfl ?_)
  exact wp_zreturn e224 c224_7 rfl (by omega) ⟨rfl, w126124, f126128, 1, rfl, ⟨by omega, by omega⟩⟩
/-! StrikeAwakeModel.say(II)Z -/
theorem e222 : wq_en 222 = some (9, 3, false, some FieldType.boolean) := rfl
theorem c222_0 : mc_cd 222 0 = some (.aload_n 0, 1) := by decide +kernel
theorem c222_1 : mc_cd 222 1 = some (.iconst 0, 1) := by decide +kernel
theorem c222_2 : mc_cd 222 2 = some (.putfield 48, 3) := by decide +kernel
theorem c222_5 : mc_cd 222 5 = some (.aload_n 0, 1) := by decide +kernel
theorem c222_6 : mc_cd 222 6 = some (.iload_n 1, 1) := by decide +kernel
theorem c222_7 : mc_cd 222 7 = some (.iload_n 2, 1) := by decide +kernel
theorem c222_8 : mc_cd 222 8 = some (.invokevirtual 367, 3) := by decide +kernel
theorem c222_11 : mc_cd 222 11 = some (.ifCond .ne 9, 3) := by decide +kernel
theorem c222_14 : mc_cd 222 14 = some (.aload_n 0, 1) := by decide +kernel
theorem c222_15 : mc_cd 222 15 = some (.iconst 1, 1) := by decide +kernel
theorem c222_16 : mc_cd 222 16 = some (.invokevirtual 400, 3) := by decide +kernel
theorem c222_19 : mc_cd 222 19 = some (.ireturn, 1) := by decide +kernel
theorem c222_20 : mc_cd 222 20 = some (.aload_n 0, 1) := by decide +kernel
theorem c222_21 : mc_cd 222 21 = some (.getfield 36, 3) := by decide +kernel
theorem c222_24 : mc_cd 222 24 = some (.iload_n 1, 1) := by decide +kernel
theorem c222_25 : mc_cd 222 25 = some (.iload_n 2, 1) := by decide +kernel
theorem c222_26 : mc_cd 222 26 = some (.iastore, 1) := by decide +kernel
theorem c222_27 : mc_cd 222 27 = some (.aload_n 0, 1) := by decide +kernel
theorem c222_28 : mc_cd 222 28 = some (.invokevirtual 403, 3) := by decide +kernel
theorem c222_31 : mc_cd 222 31 = some (.ireturn, 1) := by decide +kernel
abbrev q_222 (r0 : Nat) (a1 : Int) (a2 : Int) (T : wq_T) (H : wq_H) : Option Value → wq_T → wq_H → Prop := fun r T' H' => T = T' ∧ WT T H' ∧ wfr [(42, 0), (42, 1), (42, 2), (50, 999)] T H H' ∧ ∃ z : Int, some (vI z) = r ∧ (0 ≤ z ∧ z ≤ 1) ∧ (wKI H' r0 = 1)
set_option maxHeartbeats 4000000 in
theorem s_222 {kt : Nat → Option mc_E} {T : wq_T} {H : wq_H} {r0 : Nat} {a1 : Int} {a2 : Int} (hW : WT T H) (g0 : T.2.2.2 r0 = some 42) (i1 : (-2147483648) ≤ a1 ∧ a1 ≤ 2147483647) (i2 : (-2147483648) ≤ a2 ∧ a2 ≤ 2147483647) (p0 : wKI H r0 = 1) : wpc kt 3 222 [.ref r0, vI a1, vI a2] T H (q_222 r0 a1 a2 T H) := by
  refine wp_enter e222 (Nat.le_of_ble_eq_true rfl) rfl ?_
  have f0 : wfr [(42, 0), (42, 1), (42, 2), (50, 999)] T H H := wfr.rf
  show wp _ _ 222 0 [(0, .ref r0), (1, vI a1), (2, vI a2)] [] _ H _
  refine wp_of e222 c222_0 (rw_aload_n (pc' := 1) (v := .ref r0) rfl rfl rfl ?_)
  refine wp_of e222 c222_1 (rw_iconst (pc' := 2) rfl ?_)
  refine wp_of e222 c222_2 (xp_I (pc' := 5) lf_9_48 hW g0 sh_42 (by decide) (by decide) ty_42_0 rfl rfl (by omega) (by omega) ⟨by omega, by omega⟩ rfl (fun H126176 e126177 w126178 => ?_))
  have f126179 := f0.put' e126177 g0 rfl
  have k126180 : H126176 r0 0 = 0 := wq_u_s e126177
  refine wp_of e222 c222_5 (rw_aload_n (pc' := 6) (v := .ref r0) rfl rfl rfl ?_)
  refine wp_of e222 c222_6 (rw_iload_n (pc' := 7) (z := a1) rfl rfl ?_)
  refine wp_of e222 c222_7 (rw_iload_n (pc' := 8) (z := a2) rfl rfl ?_)
  refine wp_of e222 c222_8 (xc_V (pc' := 11) (r := r0) (as := [vI a1, vI a2]) (st := []) (lm_9_367) rfl rfl (Nat.le_of_ble_eq_true rfl) w126178 g0 sh_42 (by decide) rfl (by decide) (s_215 w126178 g0 ⟨by omega, by omega⟩ ⟨by omega, by omega⟩) (fun R126181 T126182 H126183 p126184 => ?_))
  obtain ⟨e126185, e126187, z126189, e126186, b126190, p126188⟩ := p126184
  subst e126185
  subst e126186
  subst e126187
  show wp _ _ 222 11 [(0, .ref r0), (1, vI a1), (2, vI a2)] [vI z126189] _ H126176 _
  refine wp_of e222 c222_11 (rw_if_ne (p1 := 20) (p2 := 14) (by decide) rfl ⟨by omega, by omega⟩ (fun c126191 => ?_) (fun c126191 => ?_))
  · refine wp_of e222 c222_20 (rw_aload_n (pc' := 21) (v := .ref r0) rfl rfl rfl ?_)
    refine wp_of e222 c222_21 (xg_R (pc' := 24) lf_9_36 w126178 g0 sh_42 (by decide) (by decide) ty_42_26 rfl rfl (fun r126192 q126193 g126194 => ?_))
    refine wp_of e222 c222_24 (rw_iload_n (pc' := 25) (z := a1) rfl rfl ?_)
    refine wp_of e222 c222_25 (rw_iload_n (pc' := 26) (z := a2) rfl rfl ?_)
    refine wp_of e222 c222_26 (xs_I (pc' := 27) w126178 g126194 (by decide) sh_50 (by decide) (ty_50 _) (by omega) (by omega) ⟨by omega, by omega⟩ (by omega) (by omega) rfl (fun H126195 e126196 w126197 => ?_))
    have f126198 := f126179.put' e126196 g126194 rfl
    refine wp_of e222 c222_27 (rw_aload_n (pc' := 28) (v := .ref r0) rfl rfl rfl ?_)
    refine wp_of e222 c222_28 (xc_V (pc' := 31) (r := r0) (as := []) (st := []) (lm_9_403) rfl rfl (Nat.le_of_ble_eq_true rfl) w126197 g0 sh_42 (by decide) rfl (by decide) (s_224 w126197 g0) (fun R126199 T126200 H126201 p126202 => ?_))
    obtain ⟨e126203, w126205, f126206, z126207, e126204, b126208⟩ := p126202
    subst e126203
    subst e126204
    have f126209 := f126198.tr f126206 rfl
    show wp _ _ 222 31 [(0, .ref r0), (1, vI a1), (2, vI a2)] [vI z126207] _ H126201 _
    have k126210 : wKI H126201 r0 = wKI H r0 := ((wKI_fr w126197 g0 f126206 rfl).trans ((wKI_fr w126178 g0 ((wfr.rf (l := [(50, 999)])).put' e126196 g126194 rfl) rfl).trans (wKI_fr hW g0 ((wfr.rf (l := [(42, 0)])).put' e126177 g0 rfl) rfl)))
    exact wp_zreturn e222 c222_31 rfl (by omega) ⟨rfl, w126205, f126209, z126207, rfl, ⟨by omega, by omega⟩, by omega⟩
  · refine wp_of e222 c222_14 (rw_aload_n (pc' := 15) (v := .ref r0) rfl rfl rfl ?_)
    refine wp_of e222 c222_15 (rw_iconst (pc' := 16) rfl ?_)
    refine wp_of e222 c222_16 (xc_V (pc' := 19) (r := r0) (as := [vI 1]) (st := []) (lm_9_400) rfl rfl (Nat.le_of_ble_eq_true rfl) w126178 g0 sh_42 (by decide) rfl (by decide) (s_223 w126178 g0 ⟨by omega, by omega⟩) (fun R126211 T126212 H126213 p126214 => ?_))
    obtain ⟨e126215, w126217, f126218, z126219, e126216, b126220⟩ := p126214
    subst e126215
    subst e126216
    have f126221 := f126179.tr f126218 rfl
    show wp _ _ 222 19 [(0, .ref r0), (1, vI a1), (2, vI a2)] [vI z126219] _ H126213 _
    have k126222 : wKI H126213 r0 = wKI H r0 := ((wKI_fr w126178 g0 f126218 rfl).trans (wKI_fr hW g0 ((wfr.rf (l := [(42, 0)])).put' e126177 g0 rfl) rfl))
    exact wp_zreturn e222 c222_19 rfl (by omega) ⟨rfl, w126217, f126221, z126219, rfl, ⟨by omega, by omega⟩, by omega⟩
/-! StrikeAwakeModel.said(I)I -/
theorem e225 : wq_en 225 = some (9, 2, false, some FieldType.int) := rfl
theorem c225_0 : mc_cd 225 0 = some (.aload_n 0, 1) := by decide +kernel
theorem c225_1 : mc_cd 225 1 = some (.iconst 0, 1) := by decide +kernel
theorem c225_2 : mc_cd 225 2 = some (.putfield 48, 3) := by decide +kernel
theorem c225_5 : mc_cd 225 5 = some (.aload_n 0, 1) := by decide +kernel
theorem c225_6 : mc_cd 225 6 = some (.iload_n 1, 1) := by decide +kernel
theorem c225_7 : mc_cd 225 7 = some (.invokevirtual 364, 3) := by decide +kernel
theorem c225_10 : mc_cd 225 10 = some (.ifCond .eq 25, 3) := by decide +kernel
theorem c225_13 : mc_cd 225 13 = some (.aload_n 0, 1) := by decide +kernel
theorem c225_14 : mc_cd 225 14 = some (.getfield 21, 3) := by decide +kernel
theorem c225_17 : mc_cd 225 17 = some (.iload_n 1, 1) := by decide +kernel
theorem c225_18 : mc_cd 225 18 = some (.iaload, 1) := by decide +kernel
theorem c225_19 : mc_cd 225 19 = some (.ifCond .le 16, 3) := by decide +kernel
theorem c225_22 : mc_cd 225 22 = some (.aload_n 0, 1) := by decide +kernel
theorem c225_23 : mc_cd 225 23 = some (.aload_n 0, 1) := by decide +kernel
theorem c225_24 : mc_cd 225 24 = some (.getfield 36, 3) := by decide +kernel
theorem c225_27 : mc_cd 225 27 = some (.iload_n 1, 1) := by decide +kernel
theorem c225_28 : mc_cd 225 28 = some (.iaload, 1) := by decide +kernel
theorem c225_29 : mc_cd 225 29 = some (.invokevirtual 58, 3) := by decide +kernel
theorem c225_32 : mc_cd 225 32 = some (.goto 8, 3) := by decide +kernel
theorem c225_35 : mc_cd 225 35 = some (.aload_n 0, 1) := by decide +kernel
theorem c225_36 : mc_cd 225 36 = some (.iconst 1, 1) := by decide +kernel
theorem c225_37 : mc_cd 225 37 = some (.invokevirtual 54, 3) := by decide +kernel
theorem c225_40 : mc_cd 225 40 = some (.ireturn, 1) := by decide +kernel
abbrev q_225 (r0 : Nat) (a1 : Int) (T : wq_T) (H : wq_H) : Option Value → wq_T → wq_H → Prop := fun r T' H' => T = T' ∧ WT T H' ∧ wfr [(42, 0), (42, 1), (42, 2)] T H H' ∧ ∃ z : Int, some (vI z) = r ∧ ((-2147483648) ≤ z ∧ z ≤ 2147483647) ∧ (wKI H' r0 = 1)
set_option maxHeartbeats 4000000 in
theorem s_225 {kt : Nat → Option mc_E} {T : wq_T} {H : wq_H} {r0 : Nat} {a1 : Int} (hW : WT T H) (g0 : T.2.2.2 r0 = some 42) (i1 : (-2147483648) ≤ a1 ∧ a1 ≤ 2147483647) (p0 : wKI H r0 = 1) : wpc kt 2 225 [.ref r0, vI a1] T H (q_225 r0 a1 T H) := by
  refine wp_enter e225 (Nat.le_of_ble_eq_true rfl) rfl ?_
  have f0 : wfr [(42, 0), (42, 1), (42, 2)] T H H := wfr.rf
  show wp _ _ 225 0 [(0, .ref r0), (1, vI a1)] [] _ H _
  refine wp_of e225 c225_0 (rw_aload_n (pc' := 1) (v := .ref r0) rfl rfl rfl ?_)
  refine wp_of e225 c225_1 (rw_iconst (pc' := 2) rfl ?_)
  refine wp_of e225 c225_2 (xp_I (pc' := 5) lf_9_48 hW g0 sh_42 (by decide) (by decide) ty_42_0 rfl rfl (by omega) (by omega) ⟨by omega, by omega⟩ rfl (fun H126286 e126287 w126288 => ?_))
  have f126289 := f0.put' e126287 g0 rfl
  have k126290 : H126286 r0 0 = 0 := wq_u_s e126287
  refine wp_of e225 c225_5 (rw_aload_n (pc' := 6) (v := .ref r0) rfl rfl rfl ?_)
  refine wp_of e225 c225_6 (rw_iload_n (pc' := 7) (z := a1) rfl rfl ?_)
  refine wp_of e225 c225_7 (xc_V (pc' := 10) (r := r0) (as := [vI a1]) (st := []) (lm_9_364) rfl rfl (Nat.le_of_ble_eq_true rfl) w126288 g0 sh_42 (by decide) rfl (by decide) (s_213 w126288 g0 ⟨by omega, by omega⟩) (fun R126291 T126292 H126293 p126294 => ?_))
  obtain ⟨e126295, e126297, z126299, e126296, b126300, p126298⟩ := p126294
  subst e126295
  subst e126296
  subst e126297
  show wp _ _ 225 10 [(0, .ref r0), (1, vI a1)] [vI z126299] _ H126286 _
  refine wp_of e225 c225_10 (rw_if_eq (p1 := 35) (p2 := 13) (by decide) rfl ⟨by omega, by omega⟩ (fun c126301 => ?_) (fun c126301 => ?_))
  · refine wp_of e225 c225_35 (rw_aload_n (pc' := 36) (v := .ref r0) rfl rfl rfl ?_)
    refine wp_of e225 c225_36 (rw_iconst (pc' := 37) rfl ?_)
    refine wp_of e225 c225_37 (xc_V (pc' := 40) (r := r0) (as := [vI 1]) (st := []) (lm_9_54) rfl rfl (Nat.le_of_ble_eq_true rfl) w126288 g0 sh_42 (by decide) rfl (by decide) (s_170 w126288 g0 ⟨by omega, by omega⟩) (fun R126302 T126303 H126304 p126305 => ?_))
    obtain ⟨e126306, w126308, f126309, z126310, e126307, b126311⟩ := p126305
    subst e126306
    subst e126307
    have f126312 := f126289.tr f126309 rfl
    show wp _ _ 225 40 [(0, .ref r0), (1, vI a1)] [vI z126310] _ H126304 _
    have k126313 : wKI H126304 r0 = wKI H r0 := ((wKI_fr w126288 g0 f126309 rfl).trans (wKI_fr hW g0 ((wfr.rf (l := [(42, 0)])).put' e126287 g0 rfl) rfl))
    exact wp_ireturn e225 c225_40 rfl ⟨rfl, w126308, f126312, z126310, rfl, ⟨by omega, by omega⟩, by omega⟩
  · refine wp_of e225 c225_13 (rw_aload_n (pc' := 14) (v := .ref r0) rfl rfl rfl ?_)
    refine wp_of e225 c225_14 (xg_R (pc' := 17) lf_9_21 w126288 g0 sh_42 (by decide) (by decide) ty_42_21 rfl rfl (fun r126314 q126315 g126316 => ?_))
    refine wp_of e225 c225_17 (rw_iload_n (pc' := 18) (z := a1) rfl rfl ?_)
    refine wp_of e225 c225_18 (xa_I (so := 0) (pc' := 19) w126288 g126316 sh_45 (by decide) (ty_45 _) (by omega) (by omega) rfl (fun b126317 b126318 => ?_))
    refine wp_of e225 c225_19 (rw_if_le (p1 := 35) (p2 := 22) (by decide) rfl ⟨by omega, by omega⟩ (fun c126319 => ?_) (fun c126319 => ?_))
    · refine wp_of e225 c225_35 (rw_aload_n (pc' := 36) (v := .ref r0) rfl rfl rfl ?_)
      refine wp_of e225 c225_36 (rw_iconst (pc' := 37) rfl ?_)
      refine wp_of e225 c225_37 (xc_V (pc' := 40) (r := r0) (as := [vI 1]) (st := []) (lm_9_54) rfl rfl (Nat.le_of_ble_eq_true rfl) w126288 g0 sh_42 (by decide) rfl (by decide) (s_170 w126288 g0 ⟨by omega, by omega⟩) (fun R126320 T126321 H126322 p126323 => ?_))
      obtain ⟨e126324, w126326, f126327, z126328, e126325, b126329⟩ := p126323
      subst e126324
      subst e126325
      have f126330 := f126289.tr f126327 rfl
      show wp _ _ 225 40 [(0, .ref r0), (1, vI a1)] [vI z126328] _ H126322 _
      have k126331 : wKI H126322 r0 = wKI H r0 := ((wKI_fr w126288 g0 f126327 rfl).trans (wKI_fr hW g0 ((wfr.rf (l := [(42, 0)])).put' e126287 g0 rfl) rfl))
      exact wp_ireturn e225 c225_40 rfl ⟨rfl, w126326, f126330, z126328, rfl, ⟨by omega, by omega⟩, by omega⟩
    · refine wp_of e225 c225_22 (rw_aload_n (pc' := 23) (v := .ref r0) rfl rfl rfl ?_)
      refine wp_of e225 c225_23 (rw_aload_n (pc' := 24) (v := .ref r0) rfl rfl rfl ?_)
      refine wp_of e225 c225_24 (xg_R (pc' := 27) lf_9_36 w126288 g0 sh_42 (by decide) (by decide) ty_42_26 rfl rfl (fun r126332 q126333 g126334 => ?_))
      refine wp_of e225 c225_27 (rw_iload_n (pc' := 28) (z := a1) rfl rfl ?_)
      refine wp_of e225 c225_28 (xa_I (so := 0) (pc' := 29) w126288 g126334 sh_50 (by decide) (ty_50 _) (by omega) (by omega) rfl (fun b126335 b126336 => ?_))
      refine wp_of e225 c225_29 (xc_V (pc' := 32) (r := r0) (as := [vI (H126286 r126332 (a1.toNat))]) (st := []) (lm_9_58) rfl rfl (Nat.le_of_ble_eq_true rfl) w126288 g0 sh_42 (by decide) rfl (by decide) (s_209 w126288 g0 ⟨by omega, by omega⟩) (fun R126337 T126338 H126339 p126340 => ?_))
      obtain ⟨e126341, w126343, f126344, z126345, e126342, b126346⟩ := p126340
      subst e126341
      subst e126342
      have f126347 := f126289.tr f126344 rfl
      show wp _ _ 225 32 [(0, .ref r0), (1, vI a1)] [vI z126345] _ H126339 _
      refine wp_of e225 c225_32 (rw_goto (p1 := 40) (by decide) ?_)
      have k126348 : wKI H126339 r0 = wKI H r0 := ((wKI_fr w126288 g0 f126344 rfl).trans (wKI_fr hW g0 ((wfr.rf (l := [(42, 0)])).put' e126287 g0 rfl) rfl))
      exact wp_ireturn e225 c225_40 rfl ⟨rfl, w126343, f126347, z126345, rfl, ⟨by omega, by omega⟩, by omega⟩
/-! StrikeAwakeModel.isEmpty()Z -/
theorem e227 : wq_en 227 = some (9, 1, false, some FieldType.boolean) := rfl
theorem c227_0 : mc_cd 227 0 = some (.aload_n 0, 1) := by decide +kernel
theorem c227_1 : mc_cd 227 1 = some (.invokevirtual 376, 3) := by decide +kernel
theorem c227_4 : mc_cd 227 4 = some (.lconst 0, 1) := by decide +kernel
theorem c227_5 : mc_cd 227 5 = some (.lcmp, 1) := by decide +kernel
theorem c227_6 : mc_cd 227 6 = some (.ifCond .ne 7, 3) := by decide +kernel
theorem c227_9 : mc_cd 227 9 = some (.iconst 1, 1) := by decide +kernel
theorem c227_10 : mc_cd 227 10 = some (.goto 4, 3) := by decide +kernel
theorem c227_13 : mc_cd 227 13 = some (.iconst 0, 1) := by decide +kernel
theorem c227_14 : mc_cd 227 14 = some (.ireturn, 1) := by decide +kernel
abbrev q_227 (r0 : Nat) (pp : Nat) (T : wq_T) (H : wq_H) : Option Value → wq_T → wq_H → Prop := fun r T' H' => T = T' ∧ H = H' ∧ ∃ z : Int, some (vI z) = r ∧ (0 ≤ z ∧ z ≤ 1)
set_option maxHeartbeats 4000000 in
theorem s_227 {kt : Nat → Option mc_E} {T : wq_T} {H : wq_H} {r0 : Nat} {pp : Nat} (hW : WT T H) (g0 : T.2.2.2 r0 = some 42) (qpp : H r0 3 = (pp : Int)) (gpp : T.2.2.2 pp = some 54) : wpc kt 2 227 [.ref r0] T H (q_227 r0 pp T H) := by
  refine wp_enter e227 (Nat.le_of_ble_eq_true rfl) rfl ?_
  show wp _ _ 227 0 [(0, .ref r0)] [] _ H _
  refine wp_of e227 c227_0 (rw_aload_n (pc' := 1) (v := .ref r0) rfl rfl rfl ?_)
  refine wp_of e227 c227_1 (xc_V (pc' := 4) (r := r0) (as := []) (st := []) (lm_9_376) rfl rfl (Nat.le_of_ble_eq_true rfl) hW g0 sh_42 (by decide) rfl (by decide) (s_220 hW g0 qpp gpp) (fun R126361 T126362 H126363 p126364 => ?_))
  obtain ⟨e126365, e126367, z126369, e126366, b126370, p126368⟩ := p126364
  subst e126365
  subst e126366
  subst e126367
  show wp _ _ 227 4 [(0, .ref r0)] [vL z126369] _ H _
  refine wp_of e227 c227_4 (rw_lconst (pc' := 5) (z := 0) rfl rfl ?_)
  refine wp_of e227 c227_5 (rw_lcmp (pc' := 6) rfl ⟨by omega, by omega⟩ ⟨by omega, by omega⟩ ?_)
  have b126371 := wq_cmp_b z126369 0
  refine wp_of e227 c227_6 (rw_if_ne (p1 := 13) (p2 := 9) (by decide) rfl ⟨by omega, by omega⟩ (fun c126372 => ?_) (fun c126372 => ?_))
  · refine wp_of e227 c227_13 (rw_iconst (pc' := 14) rfl ?_)
    exact wp_zreturn e227 c227_14 rfl (by omega) ⟨rfl, rfl, 0, rfl, ⟨by omega, by omega⟩⟩
  · refine wp_of e227 c227_9 (rw_iconst (pc' := 10) rfl ?_)
    refine wp_of e227 c227_10 (rw_goto (p1 := 14) (by decide) ?_)
    exact wp_zreturn e227 c227_14 rfl (by omega) ⟨rfl, rfl, 1, rfl, ⟨by omega, by omega⟩⟩
/-! StrikeAwakeModel.born(I)I -/
theorem e229 : wq_en 229 = some (9, 4, false, some FieldType.int) := rfl
theorem c229_0 : mc_cd 229 0 = some (.iconst 0, 1) := by decide +kernel
theorem c229_1 : mc_cd 229 1 = some (.istore_n 2, 1) := by decide +kernel
theorem c229_2 : mc_cd 229 2 = some (.iconst 0, 1) := by decide +kernel
theorem c229_3 : mc_cd 229 3 = some (.istore_n 3, 1) := by decide +kernel
theorem c229_4 : mc_cd 229 4 = some (.iload_n 3, 1) := by decide +kernel
theorem c229_5 : mc_cd 229 5 = some (.aload_n 0, 1) := by decide +kernel
theorem c229_6 : mc_cd 229 6 = some (.getfield 337, 3) := by decide +kernel
theorem c229_9 : mc_cd 229 9 = some (.getfield 288, 3) := by decide +kernel
theorem c229_12 : mc_cd 229 12 = some (.if_icmp .ge 30, 3) := by decide +kernel
theorem c229_15 : mc_cd 229 15 = some (.iload_n 2, 1) := by decide +kernel
theorem c229_16 : mc_cd 229 16 = some (.aload_n 0, 1) := by decide +kernel
theorem c229_17 : mc_cd 229 17 = some (.getfield 337, 3) := by decide +kernel
theorem c229_20 : mc_cd 229 20 = some (.getfield 291, 3) := by decide +kernel
theorem c229_23 : mc_cd 229 23 = some (.iload_n 3, 1) := by decide +kernel
theorem c229_24 : mc_cd 229 24 = some (.iaload, 1) := by decide +kernel
theorem c229_25 : mc_cd 229 25 = some (.iload_n 1, 1) := by decide +kernel
theorem c229_26 : mc_cd 229 26 = some (.if_icmp .gt 7, 3) := by decide +kernel
theorem c229_29 : mc_cd 229 29 = some (.iconst 1, 1) := by decide +kernel
theorem c229_30 : mc_cd 229 30 = some (.goto 4, 3) := by decide +kernel
theorem c229_33 : mc_cd 229 33 = some (.iconst 0, 1) := by decide +kernel
theorem c229_34 : mc_cd 229 34 = some (.iadd, 1) := by decide +kernel
theorem c229_35 : mc_cd 229 35 = some (.istore_n 2, 1) := by decide +kernel
theorem c229_36 : mc_cd 229 36 = some (.iinc 3 1, 3) := by decide +kernel
theorem c229_39 : mc_cd 229 39 = some (.goto (-35), 3) := by decide +kernel
theorem c229_42 : mc_cd 229 42 = some (.iload_n 2, 1) := by decide +kernel
theorem c229_43 : mc_cd 229 43 = some (.ireturn, 1) := by decide +kernel
abbrev q_229 (r0 : Nat) (a1 : Int) (pp : Nat) (T : wq_T) (H : wq_H) : Option Value → wq_T → wq_H → Prop := fun r T' H' => T = T' ∧ H = H' ∧ ∃ z : Int, some (vI z) = r ∧ ((-2147483648) ≤ z ∧ z ≤ 2147483647)
set_option maxHeartbeats 4000000 in
theorem s_229 {kt : Nat → Option mc_E} {T : wq_T} {H : wq_H} {r0 : Nat} {a1 : Int} {pp : Nat} (hW : WT T H) (g0 : T.2.2.2 r0 = some 42) (i1 : (-2147483648) ≤ a1 ∧ a1 ≤ 2147483647) (qpp : H r0 3 = (pp : Int)) (gpp : T.2.2.2 pp = some 54) : wpc kt 1 229 [.ref r0, vI a1] T H (q_229 r0 a1 pp T H) := by
  refine wp_enter e229 (Nat.le_of_ble_eq_true rfl) rfl ?_
  show wp _ _ 229 0 [(0, .ref r0), (1, vI a1)] [] _ H _
  refine wp_of e229 c229_0 (rw_iconst (pc' := 1) rfl ?_)
  refine wp_of e229 c229_1 (rw_istore_n (pc' := 2) (z := 0) (L' := [(2, vI 0), (0, .ref r0), (1, vI a1)]) rfl rfl rfl ?_)
  refine wp_of e229 c229_2 (rw_iconst (pc' := 3) rfl ?_)
  refine wp_of e229 c229_3 (rw_istore_n (pc' := 4) (z := 0) (L' := [(3, vI 0), (2, vI 0), (0, .ref r0), (1, vI a1)]) rfl rfl rfl ?_)
  have lp126591 : ∀ (n126592 : Nat) (v126594 : Int) (v126595 : Int), (0 ≤ v126594 ∧ v126594 ≤ 3) → ((-2147483648) ≤ v126595 ∧ v126595 ≤ 2147483647) → (3 - v126594).toNat = n126592 → wp kt 0 229 4 [(3, vI v126594), (2, vI v126595), (0, .ref r0), (1, vI a1)] [] T H (q_229 r0 a1 pp T H) := by
    intro n126592
    induction n126592 using Nat.strongRecOn with
    | _ n126592 ih126593 =>
      intro v126594 v126595 b126598 b126599 m126600
      refine wp_of e229 c229_4 (rw_iload_n (pc' := 5) (z := v126594) rfl rfl ?_)
      refine wp_of e229 c229_5 (rw_aload_n (pc' := 6) (v := .ref r0) rfl rfl rfl ?_)
      refine wp_of e229 c229_6 (xg_K (pc' := 9) lf_9_337 hW g0 sh_42 (by decide) (by decide) rfl qpp rfl ?_)
      refine wp_of e229 c229_9 (xg_I (pc' := 12) lf_9_288 hW gpp sh_54 (by decide) (by decide) ty_54_5 rfl rfl (fun b126601 b126602 => ?_))
      refine wp_of e229 c229_12 (rw_icmp_ge (p1 := 42) (p2 := 15) (by decide) rfl ⟨by omega, by omega⟩ ⟨by omega, by omega⟩ (fun c126603 => ?_) (fun c126603 => ?_))
      · refine wp_of e229 c229_42 (rw_iload_n (pc' := 43) (z := v126595) rfl rfl ?_)
        exact wp_ireturn e229 c229_43 rfl ⟨rfl, rfl, v126595, rfl, ⟨by omega, by omega⟩⟩
      · refine wp_of e229 c229_15 (rw_iload_n (pc' := 16) (z := v126595) rfl rfl ?_)
        refine wp_of e229 c229_16 (rw_aload_n (pc' := 17) (v := .ref r0) rfl rfl rfl ?_)
        refine wp_of e229 c229_17 (xg_K (pc' := 20) lf_9_337 hW g0 sh_42 (by decide) (by decide) rfl qpp rfl ?_)
        refine wp_of e229 c229_20 (xg_R (pc' := 23) lf_9_291 hW gpp sh_54 (by decide) (by decide) ty_54_20 rfl rfl (fun r126604 q126605 g126606 => ?_))
        refine wp_of e229 c229_23 (rw_iload_n (pc' := 24) (z := v126594) rfl rfl ?_)
        refine wp_of e229 c229_24 (xa_I (so := 0) (pc' := 25) hW g126606 sh_66 (by decide) (ty_66 _) (by omega) (by omega) rfl (fun b126607 b126608 => ?_))
        refine wp_of e229 c229_25 (rw_iload_n (pc' := 26) (z := a1) rfl rfl ?_)
        refine wp_of e229 c229_26 (rw_icmp_gt (p1 := 33) (p2 := 29) (by decide) rfl ⟨by omega, by omega⟩ ⟨by omega, by omega⟩ (fun c126609 => ?_) (fun c126609 => ?_))
        · refine wp_of e229 c229_33 (rw_iconst (pc' := 34) rfl ?_)
          refine wp_of e229 c229_34 (rw_iadd (pc' := 35) rfl ?_)
          refine wp_of e229 c229_35 (rw_istore_n (pc' := 36) (z := v126595 + 0) (L' := [(2, vI (v126595 + 0)), (3, vI v126594), (0, .ref r0), (1, vI a1)]) rfl rfl rfl ?_)
          refine wp_of e229 c229_36 (rw_iinc (pc' := 39) (z := v126594) (L' := [(3, vI (v126594 + 1)), (2, vI (v126595 + 0)), (0, .ref r0), (1, vI a1)]) rfl rfl rfl rfl ?_)
          refine wp_of e229 c229_39 (rw_goto (p1 := 4) (by decide) ?_)
          exact wp_lc (ks := [3, 2, 0, 1]) (wl_c rfl (wl_c rfl (wl_c rfl (wl_c rfl wl_n)))) rfl (by decide) (ih126593 _ (by omega) (v126594 + 1) (v126595 + 0) ⟨by omega, by omega⟩ ⟨by omega, by omega⟩ rfl)
        · refine wp_of e229 c229_29 (rw_iconst (pc' := 30) rfl ?_)
          refine wp_of e229 c229_30 (rw_goto (p1 := 34) (by decide) ?_)
          refine wp_of e229 c229_34 (rw_iaddw (pc' := 35) rfl ?_)
          obtain ⟨v126610, e126611⟩ : ∃ x : Int, x = wq_w (v126595 + 1) := ⟨_, rfl⟩
          rw [← e126611]
          have b126612 : -2147483648 ≤ v126610 ∧ v126610 ≤ 2147483647 := by
            rw [e126611]
            exact wI_w _
          refine wp_of e229 c229_35 (rw_istore_n (pc' := 36) (z := v126610) (L' := [(2, vI v126610), (3, vI v126594), (0, .ref r0), (1, vI a1)]) rfl rfl rfl ?_)
          refine wp_of e229 c229_36 (rw_iinc (pc' := 39) (z := v126594) (L' := [(3, vI (v126594 + 1)), (2, vI v126610), (0, .ref r0), (1, vI a1)]) rfl rfl rfl rfl ?_)
          refine wp_of e229 c229_39 (rw_goto (p1 := 4) (by decide) ?_)
          exact wp_lc (ks := [3, 2, 0, 1]) (wl_c rfl (wl_c rfl (wl_c rfl (wl_c rfl wl_n)))) rfl (by decide) (ih126593 _ (by omega) (v126594 + 1) v126610 ⟨by omega, by omega⟩ ⟨by omega, by omega⟩ rfl)
  exact wp_lc (ks := [3, 2, 0, 1]) (wl_c rfl (wl_c rfl (wl_c rfl (wl_c rfl wl_n)))) rfl (by decide) (lp126591 _ 0 0 ⟨by omega, by omega⟩ ⟨by omega, by omega⟩ rfl)
/-! StrikeAwakeModel.strikesIn([II)I -/
theorem e228 : wq_en 228 = some (9, 5, false, some FieldType.int) := rfl
theorem c228_0 : mc_cd 228 0 = some (.aload_n 0, 1) := by decide +kernel
theorem c228_1 : mc_cd 228 1 = some (.iload_n 2, 1) := by decide +kernel
theorem c228_2 : mc_cd 228 2 = some (.invokevirtual 384, 3) := by decide +kernel
theorem c228_5 : mc_cd 228 5 = some (.istore_n 3, 1) := by decide +kernel
theorem c228_6 : mc_cd 228 6 = some (.iconst 0, 1) := by decide +kernel
theorem c228_7 : mc_cd 228 7 = some (.istore 4, 2) := by decide +kernel
theorem c228_9 : mc_cd 228 9 = some (.iload 4, 2) := by decide +kernel
theorem c228_11 : mc_cd 228 11 = some (.aload_n 0, 1) := by decide +kernel
theorem c228_12 : mc_cd 228 12 = some (.getfield 337, 3) := by decide +kernel
theorem c228_15 : mc_cd 228 15 = some (.getfield 188, 3) := by decide +kernel
theorem c228_18 : mc_cd 228 18 = some (.if_icmp .ge 39, 3) := by decide +kernel
theorem c228_21 : mc_cd 228 21 = some (.iload_n 3, 1) := by decide +kernel
theorem c228_22 : mc_cd 228 22 = some (.aload_n 0, 1) := by decide +kernel
theorem c228_23 : mc_cd 228 23 = some (.getfield 33, 3) := by decide +kernel
theorem c228_26 : mc_cd 228 26 = some (.bipush 40, 2) := by decide +kernel
theorem c228_28 : mc_cd 228 28 = some (.iload 4, 2) := by decide +kernel
theorem c228_30 : mc_cd 228 30 = some (.imul, 1) := by decide +kernel
theorem c228_31 : mc_cd 228 31 = some (.aload_n 1, 1) := by decide +kernel
theorem c228_32 : mc_cd 228 32 = some (.iload 4, 2) := by decide +kernel
theorem c228_34 : mc_cd 228 34 = some (.iaload, 1) := by decide +kernel
theorem c228_35 : mc_cd 228 35 = some (.iadd, 1) := by decide +kernel
theorem c228_36 : mc_cd 228 36 = some (.iaload, 1) := by decide +kernel
theorem c228_37 : mc_cd 228 37 = some (.iload_n 2, 1) := by decide +kernel
theorem c228_38 : mc_cd 228 38 = some (.invokestatic 346, 3) := by decide +kernel
theorem c228_41 : mc_cd 228 41 = some (.ifCond .eq 7, 3) := by decide +kernel
theorem c228_44 : mc_cd 228 44 = some (.iconst 1, 1) := by decide +kernel
theorem c228_45 : mc_cd 228 45 = some (.goto 4, 3) := by decide +kernel
theorem c228_48 : mc_cd 228 48 = some (.iconst 0, 1) := by decide +kernel
theorem c228_49 : mc_cd 228 49 = some (.iadd, 1) := by decide +kernel
theorem c228_50 : mc_cd 228 50 = some (.istore_n 3, 1) := by decide +kernel
theorem c228_51 : mc_cd 228 51 = some (.iinc 4 1, 3) := by decide +kernel
theorem c228_54 : mc_cd 228 54 = some (.goto (-45), 3) := by decide +kernel
theorem c228_57 : mc_cd 228 57 = some (.iload_n 3, 1) := by decide +kernel
theorem c228_58 : mc_cd 228 58 = some (.ireturn, 1) := by decide +kernel
abbrev q_228_m_lot (r0 : Nat) (r1 : Nat) (a2 : Int) (pp : Nat) (T : wq_T) (H : wq_H) : Option Value → wq_T → wq_H → Prop := fun r T' H' => T = T' ∧ H = H' ∧ ∃ z : Int, some (vI z) = r ∧ ((-2147483648) ≤ z ∧ z ≤ 2147483647)
set_option maxHeartbeats 4000000 in
theorem s_228_m_lot {kt : Nat → Option mc_E} {T : wq_T} {H : wq_H} {r0 : Nat} {r1 : Nat} {a2 : Int} {pp : Nat} (hW : WT T H) (g0 : T.2.2.2 r0 = some 42) (g1 : T.2.2.2 r1 = some 51) (i2 : (-2147483648) ≤ a2 ∧ a2 ≤ 2147483647) (qpp : H r0 3 = (pp : Int)) (gpp : T.2.2.2 pp = some 54) : wpc kt 2 228 [.ref r0, .ref r1, vI a2] T H (q_228_m_lot r0 r1 a2 pp T H) := by
  refine wp_enter e228 (Nat.le_of_ble_eq_true rfl) rfl ?_
  show wp _ _ 228 0 [(0, .ref r0), (1, .ref r1), (2, vI a2)] [] _ H _
  refine wp_of e228 c228_0 (rw_aload_n (pc' := 1) (v := .ref r0) rfl rfl rfl ?_)
  refine wp_of e228 c228_1 (rw_iload_n (pc' := 2) (z := a2) rfl rfl ?_)
  refine wp_of e228 c228_2 (xc_V (pc' := 5) (r := r0) (as := [vI a2]) (st := []) (lm_9_384) rfl rfl (Nat.le_of_ble_eq_true rfl) hW g0 sh_42 (by decide) rfl (by decide) (s_229 hW g0 ⟨by omega, by omega⟩ qpp gpp) (fun R126813 T126814 H126815 p126816 => ?_))
  obtain ⟨e126817, e126819, z126820, e126818, b126821⟩ := p126816
  subst e126817
  subst e126818
  subst e126819
  show wp _ _ 228 5 [(0, .ref r0), (1, .ref r1), (2, vI a2)] [vI z126820] _ H _
  refine wp_of e228 c228_5 (rw_istore_n (pc' := 6) (z := z126820) (L' := [(3, vI z126820), (0, .ref r0), (1, .ref r1), (2, vI a2)]) rfl rfl rfl ?_)
  refine wp_of e228 c228_6 (rw_iconst (pc' := 7) rfl ?_)
  refine wp_of e228 c228_7 (rw_istore (pc' := 9) (z := 0) (L' := [(4, vI 0), (3, vI z126820), (0, .ref r0), (1, .ref r1), (2, vI a2)]) rfl rfl rfl ?_)
  have lp126990 : ∀ (n126991 : Nat) (v126993 : Int) (v126994 : Int), (0 ≤ v126993 ∧ v126993 ≤ 6) → ((-2147483648) ≤ v126994 ∧ v126994 ≤ 2147483647) → (6 - v126993).toNat = n126991 → wp kt 1 228 9 [(4, vI v126993), (3, vI v126994), (0, .ref r0), (1, .ref r1), (2, vI a2)] [] T H (q_228_m_lot r0 r1 a2 pp T H) := by
    intro n126991
    induction n126991 using Nat.strongRecOn with
    | _ n126991 ih126992 =>
      intro v126993 v126994 b126997 b126998 m126999
      refine wp_of e228 c228_9 (rw_iload (pc' := 11) (z := v126993) rfl rfl ?_)
      refine wp_of e228 c228_11 (rw_aload_n (pc' := 12) (v := .ref r0) rfl rfl rfl ?_)
      refine wp_of e228 c228_12 (xg_K (pc' := 15) lf_9_337 hW g0 sh_42 (by decide) (by decide) rfl qpp rfl ?_)
      refine wp_of e228 c228_15 (xg_I (pc' := 18) lf_9_188 hW gpp sh_54 (by decide) (by decide) ty_54_3 rfl rfl (fun b127000 b127001 => ?_))
      refine wp_of e228 c228_18 (rw_icmp_ge (p1 := 57) (p2 := 21) (by decide) rfl ⟨by omega, by omega⟩ ⟨by omega, by omega⟩ (fun c127002 => ?_) (fun c127002 => ?_))
      · refine wp_of e228 c228_57 (rw_iload_n (pc' := 58) (z := v126994) rfl rfl ?_)
        exact wp_ireturn e228 c228_58 rfl ⟨rfl, rfl, v126994, rfl, ⟨by omega, by omega⟩⟩
      · refine wp_of e228 c228_21 (rw_iload_n (pc' := 22) (z := v126994) rfl rfl ?_)
        refine wp_of e228 c228_22 (rw_aload_n (pc' := 23) (v := .ref r0) rfl rfl rfl ?_)
        refine wp_of e228 c228_23 (xg_R (pc' := 26) lf_9_33 hW g0 sh_42 (by decide) (by decide) ty_42_25 rfl rfl (fun r127003 q127004 g127005 => ?_))
        refine wp_of e228 c228_26 (rw_bipush (pc' := 28) (z := 40) rfl (by decide) ?_)
        refine wp_of e228 c228_28 (rw_iload (pc' := 30) (z := v126993) rfl rfl ?_)
        refine wp_of e228 c228_30 (rw_imul (pc' := 31) rfl ?_)
        refine wp_of e228 c228_31 (rw_aload_n (pc' := 32) (v := .ref r1) rfl rfl rfl ?_)
        refine wp_of e228 c228_32 (rw_iload (pc' := 34) (z := v126993) rfl rfl ?_)
        refine wp_of e228 c228_34 (xa_I (so := 0) (pc' := 35) hW g1 sh_51 (by decide) (ty_51 _) (by omega) (by omega) rfl (fun b127006 b127007 => ?_))
        refine wp_of e228 c228_35 (rw_iadd (pc' := 36) rfl ?_)
        refine wp_of e228 c228_36 (xa_I (so := 0) (pc' := 37) hW g127005 sh_49 (by decide) (ty_49 _) (by omega) (by omega) rfl (fun b127008 b127009 => ?_))
        refine wp_of e228 c228_37 (rw_iload_n (pc' := 38) (z := a2) rfl rfl ?_)
        refine wp_of e228 c228_38 (xc_S (pc' := 41) (as := [vI (H r127003 (((40 * v126993) + (H r1 (v126993.toNat))).toNat)), vI a2]) (st := [vI v126994]) (lm_9_346) rfl rfl (Nat.le_of_ble_eq_true rfl) rfl (by decide) (s_205 hW ⟨by omega, by omega⟩ ⟨by omega, by omega⟩) (fun R127010 T127011 H127012 p127013 => ?_))
        obtain ⟨e127014, e127016, z127017, e127015, b127018⟩ := p127013
        subst e127014
        subst e127015
        subst e127016
        show wp _ _ 228 41 [(4, vI v126993), (3, vI v126994), (0, .ref r0), (1, .ref r1), (2, vI a2)] [vI z127017, vI v126994] _ H _
        refine wp_of e228 c228_41 (rw_if_eq (p1 := 48) (p2 := 44) (by decide) rfl ⟨by omega, by omega⟩ (fun c127019 => ?_) (fun c127019 => ?_))
        · refine wp_of e228 c228_48 (rw_iconst (pc' := 49) rfl ?_)
          refine wp_of e228 c228_49 (rw_iadd (pc' := 50) rfl ?_)
          refine wp_of e228 c228_50 (rw_istore_n (pc' := 51) (z := v126994 + 0) (L' := [(3, vI (v126994 + 0)), (4, vI v126993), (0, .ref r0), (1, .ref r1), (2, vI a2)]) rfl rfl rfl ?_)
          refine wp_of e228 c228_51 (rw_iinc (pc' := 54) (z := v126993) (L' := [(4, vI (v126993 + 1)), (3, vI (v126994 + 0)), (0, .ref r0), (1, .ref r1), (2, vI a2)]) rfl rfl rfl rfl ?_)
          refine wp_of e228 c228_54 (rw_goto (p1 := 9) (by decide) ?_)
          exact wp_lc (ks := [4, 3, 0, 1, 2]) (wl_c rfl (wl_c rfl (wl_c rfl (wl_c rfl (wl_c rfl wl_n))))) rfl (by decide) (ih126992 _ (by omega) (v126993 + 1) (v126994 + 0) ⟨by omega, by omega⟩ ⟨by omega, by omega⟩ rfl)
        · refine wp_of e228 c228_44 (rw_iconst (pc' := 45) rfl ?_)
          refine wp_of e228 c228_45 (rw_goto (p1 := 49) (by decide) ?_)
          refine wp_of e228 c228_49 (rw_iaddw (pc' := 50) rfl ?_)
          obtain ⟨v127020, e127021⟩ : ∃ x : Int, x = wq_w (v126994 + 1) := ⟨_, rfl⟩
          rw [← e127021]
          have b127022 : -2147483648 ≤ v127020 ∧ v127020 ≤ 2147483647 := by
            rw [e127021]
            exact wI_w _
          refine wp_of e228 c228_50 (rw_istore_n (pc' := 51) (z := v127020) (L' := [(3, vI v127020), (4, vI v126993), (0, .ref r0), (1, .ref r1), (2, vI a2)]) rfl rfl rfl ?_)
          refine wp_of e228 c228_51 (rw_iinc (pc' := 54) (z := v126993) (L' := [(4, vI (v126993 + 1)), (3, vI v127020), (0, .ref r0), (1, .ref r1), (2, vI a2)]) rfl rfl rfl rfl ?_)
          refine wp_of e228 c228_54 (rw_goto (p1 := 9) (by decide) ?_)
          exact wp_lc (ks := [4, 3, 0, 1, 2]) (wl_c rfl (wl_c rfl (wl_c rfl (wl_c rfl (wl_c rfl wl_n))))) rfl (by decide) (ih126992 _ (by omega) (v126993 + 1) v127020 ⟨by omega, by omega⟩ ⟨by omega, by omega⟩ rfl)
  exact wp_lc (ks := [4, 3, 0, 1, 2]) (wl_c rfl (wl_c rfl (wl_c rfl (wl_c rfl (wl_c rfl wl_n))))) rfl (by decide) (lp126990 _ 0 z126820 ⟨by omega, by omega⟩ ⟨by omega, by omega⟩ rfl)

/-! StrikeAwakeModel.strikesIn([II)I -/
abbrev q_228_m_said (r0 : Nat) (r1 : Nat) (a2 : Int) (pp : Nat) (T : wq_T) (H : wq_H) : Option Value → wq_T → wq_H → Prop := fun r T' H' => T = T' ∧ H = H' ∧ ∃ z : Int, some (vI z) = r ∧ ((-2147483648) ≤ z ∧ z ≤ 2147483647)
set_option maxHeartbeats 4000000 in
theorem s_228_m_said {kt : Nat → Option mc_E} {T : wq_T} {H : wq_H} {r0 : Nat} {r1 : Nat} {a2 : Int} {pp : Nat} (hW : WT T H) (g0 : T.2.2.2 r0 = some 42) (g1 : T.2.2.2 r1 = some 50) (i2 : (-2147483648) ≤ a2 ∧ a2 ≤ 2147483647) (qpp : H r0 3 = (pp : Int)) (gpp : T.2.2.2 pp = some 54) : wpc kt 2 228 [.ref r0, .ref r1, vI a2] T H (q_228_m_said r0 r1 a2 pp T H) := by
  refine wp_enter e228 (Nat.le_of_ble_eq_true rfl) rfl ?_
  show wp _ _ 228 0 [(0, .ref r0), (1, .ref r1), (2, vI a2)] [] _ H _
  refine wp_of e228 c228_0 (rw_aload_n (pc' := 1) (v := .ref r0) rfl rfl rfl ?_)
  refine wp_of e228 c228_1 (rw_iload_n (pc' := 2) (z := a2) rfl rfl ?_)
  refine wp_of e228 c228_2 (xc_V (pc' := 5) (r := r0) (as := [vI a2]) (st := []) (lm_9_384) rfl rfl (Nat.le_of_ble_eq_true rfl) hW g0 sh_42 (by decide) rfl (by decide) (s_229 hW g0 ⟨by omega, by omega⟩ qpp gpp) (fun R127223 T127224 H127225 p127226 => ?_))
  obtain ⟨e127227, e127229, z127230, e127228, b127231⟩ := p127226
  subst e127227
  subst e127228
  subst e127229
  show wp _ _ 228 5 [(0, .ref r0), (1, .ref r1), (2, vI a2)] [vI z127230] _ H _
  refine wp_of e228 c228_5 (rw_istore_n (pc' := 6) (z := z127230) (L' := [(3, vI z127230), (0, .ref r0), (1, .ref r1), (2, vI a2)]) rfl rfl rfl ?_)
  refine wp_of e228 c228_6 (rw_iconst (pc' := 7) rfl ?_)
  refine wp_of e228 c228_7 (rw_istore (pc' := 9) (z := 0) (L' := [(4, vI 0), (3, vI z127230), (0, .ref r0), (1, .ref r1), (2, vI a2)]) rfl rfl rfl ?_)
  have lp127400 : ∀ (n127401 : Nat) (v127403 : Int) (v127404 : Int), (0 ≤ v127403 ∧ v127403 ≤ 6) → ((-2147483648) ≤ v127404 ∧ v127404 ≤ 2147483647) → (6 - v127403).toNat = n127401 → wp kt 1 228 9 [(4, vI v127403), (3, vI v127404), (0, .ref r0), (1, .ref r1), (2, vI a2)] [] T H (q_228_m_said r0 r1 a2 pp T H) := by
    intro n127401
    induction n127401 using Nat.strongRecOn with
    | _ n127401 ih127402 =>
      intro v127403 v127404 b127407 b127408 m127409
      refine wp_of e228 c228_9 (rw_iload (pc' := 11) (z := v127403) rfl rfl ?_)
      refine wp_of e228 c228_11 (rw_aload_n (pc' := 12) (v := .ref r0) rfl rfl rfl ?_)
      refine wp_of e228 c228_12 (xg_K (pc' := 15) lf_9_337 hW g0 sh_42 (by decide) (by decide) rfl qpp rfl ?_)
      refine wp_of e228 c228_15 (xg_I (pc' := 18) lf_9_188 hW gpp sh_54 (by decide) (by decide) ty_54_3 rfl rfl (fun b127410 b127411 => ?_))
      refine wp_of e228 c228_18 (rw_icmp_ge (p1 := 57) (p2 := 21) (by decide) rfl ⟨by omega, by omega⟩ ⟨by omega, by omega⟩ (fun c127412 => ?_) (fun c127412 => ?_))
      · refine wp_of e228 c228_57 (rw_iload_n (pc' := 58) (z := v127404) rfl rfl ?_)
        exact wp_ireturn e228 c228_58 rfl ⟨rfl, rfl, v127404, rfl, ⟨by omega, by omega⟩⟩
      · refine wp_of e228 c228_21 (rw_iload_n (pc' := 22) (z := v127404) rfl rfl ?_)
        refine wp_of e228 c228_22 (rw_aload_n (pc' := 23) (v := .ref r0) rfl rfl rfl ?_)
        refine wp_of e228 c228_23 (xg_R (pc' := 26) lf_9_33 hW g0 sh_42 (by decide) (by decide) ty_42_25 rfl rfl (fun r127413 q127414 g127415 => ?_))
        refine wp_of e228 c228_26 (rw_bipush (pc' := 28) (z := 40) rfl (by decide) ?_)
        refine wp_of e228 c228_28 (rw_iload (pc' := 30) (z := v127403) rfl rfl ?_)
        refine wp_of e228 c228_30 (rw_imul (pc' := 31) rfl ?_)
        refine wp_of e228 c228_31 (rw_aload_n (pc' := 32) (v := .ref r1) rfl rfl rfl ?_)
        refine wp_of e228 c228_32 (rw_iload (pc' := 34) (z := v127403) rfl rfl ?_)
        refine wp_of e228 c228_34 (xa_I (so := 0) (pc' := 35) hW g1 sh_50 (by decide) (ty_50 _) (by omega) (by omega) rfl (fun b127416 b127417 => ?_))
        refine wp_of e228 c228_35 (rw_iadd (pc' := 36) rfl ?_)
        refine wp_of e228 c228_36 (xa_I (so := 0) (pc' := 37) hW g127415 sh_49 (by decide) (ty_49 _) (by omega) (by omega) rfl (fun b127418 b127419 => ?_))
        refine wp_of e228 c228_37 (rw_iload_n (pc' := 38) (z := a2) rfl rfl ?_)
        refine wp_of e228 c228_38 (xc_S (pc' := 41) (as := [vI (H r127413 (((40 * v127403) + (H r1 (v127403.toNat))).toNat)), vI a2]) (st := [vI v127404]) (lm_9_346) rfl rfl (Nat.le_of_ble_eq_true rfl) rfl (by decide) (s_205 hW ⟨by omega, by omega⟩ ⟨by omega, by omega⟩) (fun R127420 T127421 H127422 p127423 => ?_))
        obtain ⟨e127424, e127426, z127427, e127425, b127428⟩ := p127423
        subst e127424
        subst e127425
        subst e127426
        show wp _ _ 228 41 [(4, vI v127403), (3, vI v127404), (0, .ref r0), (1, .ref r1), (2, vI a2)] [vI z127427, vI v127404] _ H _
        refine wp_of e228 c228_41 (rw_if_eq (p1 := 48) (p2 := 44) (by decide) rfl ⟨by omega, by omega⟩ (fun c127429 => ?_) (fun c127429 => ?_))
        · refine wp_of e228 c228_48 (rw_iconst (pc' := 49) rfl ?_)
          refine wp_of e228 c228_49 (rw_iadd (pc' := 50) rfl ?_)
          refine wp_of e228 c228_50 (rw_istore_n (pc' := 51) (z := v127404 + 0) (L' := [(3, vI (v127404 + 0)), (4, vI v127403), (0, .ref r0), (1, .ref r1), (2, vI a2)]) rfl rfl rfl ?_)
          refine wp_of e228 c228_51 (rw_iinc (pc' := 54) (z := v127403) (L' := [(4, vI (v127403 + 1)), (3, vI (v127404 + 0)), (0, .ref r0), (1, .ref r1), (2, vI a2)]) rfl rfl rfl rfl ?_)
          refine wp_of e228 c228_54 (rw_goto (p1 := 9) (by decide) ?_)
          exact wp_lc (ks := [4, 3, 0, 1, 2]) (wl_c rfl (wl_c rfl (wl_c rfl (wl_c rfl (wl_c rfl wl_n))))) rfl (by decide) (ih127402 _ (by omega) (v127403 + 1) (v127404 + 0) ⟨by omega, by omega⟩ ⟨by omega, by omega⟩ rfl)
        · refine wp_of e228 c228_44 (rw_iconst (pc' := 45) rfl ?_)
          refine wp_of e228 c228_45 (rw_goto (p1 := 49) (by decide) ?_)
          refine wp_of e228 c228_49 (rw_iaddw (pc' := 50) rfl ?_)
          obtain ⟨v127430, e127431⟩ : ∃ x : Int, x = wq_w (v127404 + 1) := ⟨_, rfl⟩
          rw [← e127431]
          have b127432 : -2147483648 ≤ v127430 ∧ v127430 ≤ 2147483647 := by
            rw [e127431]
            exact wI_w _
          refine wp_of e228 c228_50 (rw_istore_n (pc' := 51) (z := v127430) (L' := [(3, vI v127430), (4, vI v127403), (0, .ref r0), (1, .ref r1), (2, vI a2)]) rfl rfl rfl ?_)
          refine wp_of e228 c228_51 (rw_iinc (pc' := 54) (z := v127403) (L' := [(4, vI (v127403 + 1)), (3, vI v127430), (0, .ref r0), (1, .ref r1), (2, vI a2)]) rfl rfl rfl rfl ?_)
          refine wp_of e228 c228_54 (rw_goto (p1 := 9) (by decide) ?_)
          exact wp_lc (ks := [4, 3, 0, 1, 2]) (wl_c rfl (wl_c rfl (wl_c rfl (wl_c rfl (wl_c rfl wl_n))))) rfl (by decide) (ih127402 _ (by omega) (v127403 + 1) v127430 ⟨by omega, by omega⟩ ⟨by omega, by omega⟩ rfl)
  exact wp_lc (ks := [4, 3, 0, 1, 2]) (wl_c rfl (wl_c rfl (wl_c rfl (wl_c rfl (wl_c rfl wl_n))))) rfl (by decide) (lp127400 _ 0 z127230 ⟨by omega, by omega⟩ ⟨by omega, by omega⟩ rfl)
