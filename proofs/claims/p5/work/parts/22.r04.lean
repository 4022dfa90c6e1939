/-! methods of the reference (own work, written by wip/gen2/sx.py) -/
/-! StrikeAwakeModel.done(I)I -/
theorem e209 : wq_en 209 = some (9, 2, false, some FieldType.int) := rfl
theorem c209_0 : mc_cd 209 0 = some (.aload_n 0, 1) := by decide +kernel
theorem c209_1 : mc_cd 209 1 = some (.iconst 0, 1) := by decide +kernel
theorem c209_2 : mc_cd 209 2 = some (.putfield 51, 3) := by decide +kernel
theorem c209_5 : mc_cd 209 5 = some (.aload_n 0, 1) := by decide +kernel
theorem c209_6 : mc_cd 209 6 = some (.iconst (-1), 1) := by decide +kernel
theorem c209_7 : mc_cd 209 7 = some (.putfield 9, 3) := by decide +kernel
theorem c209_10 : mc_cd 209 10 = some (.iload_n 1, 1) := by decide +kernel
theorem c209_11 : mc_cd 209 11 = some (.ireturn, 1) := by decide +kernel
abbrev q_209 (r0 : Nat) (a1 : Int) (T : wq_T) (H : wq_H) : Option Value → wq_T → wq_H → Prop := fun r T' H' => T = T' ∧ WT T H' ∧ wfr [(42, 1), (42, 2)] T H H' ∧ ∃ z : Int, some (vI z) = r ∧ ((-2147483648) ≤ z ∧ z ≤ 2147483647) ∧ (H' r0 2 = -1)
set_option maxHeartbeats 4000000 in
theorem s_209 {kt : Nat → Option mc_E} {T : wq_T} {H : wq_H} {r0 : Nat} {a1 : Int} (hW : WT T H) (g0 : T.2.2.2 r0 = some 42) (i1 : (-2147483648) ≤ a1 ∧ a1 ≤ 2147483647) : wpc kt 1 209 [.ref r0, vI a1] T H (q_209 r0 a1 T H) := by
  refine wp_enter e209 (Nat.le_of_ble_eq_true rfl) rfl ?_
  have f0 : wfr [(42, 1), (42, 2)] T H H := wfr.rf
  show wp _ _ 209 0 [(0, .ref r0), (1, vI a1)] [] _ H _
  refine wp_of e209 c209_0 (rw_aload_n (pc' := 1) (v := .ref r0) rfl rfl rfl ?_)
  refine wp_of e209 c209_1 (rw_iconst (pc' := 2) rfl ?_)
  refine wp_of e209 c209_2 (xp_I (pc' := 5) lf_9_51 hW g0 sh_42 (by decide) (by decide) ty_42_1 rfl rfl (by omega) (by omega) ⟨by omega, by omega⟩ rfl (fun H128255 e128256 w128257 => ?_))
  have f128258 := f0.put' e128256 g0 rfl
  have k128259 : H128255 r0 1 = 0 := wq_u_s e128256
  refine wp_of e209 c209_5 (rw_aload_n (pc' := 6) (v := .ref r0) rfl rfl rfl ?_)
  refine wp_of e209 c209_6 (rw_iconst (pc' := 7) rfl ?_)
  refine wp_of e209 c209_7 (xp_I (pc' := 10) lf_9_9 w128257 g0 sh_42 (by decide) (by decide) ty_42_2 rfl rfl (by omega) (by omega) ⟨by omega, by omega⟩ rfl (fun H128260 e128261 w128262 => ?_))
  have f128263 := f128258.put' e128261 g0 rfl
  have k128264 : H128260 r0 2 = -1 := wq_u_s e128261
  refine wp_of e209 c209_10 (rw_iload_n (pc' := 11) (z := a1) rfl rfl ?_)
  exact wp_ireturn e209 c209_11 rfl ⟨rfl, w128262, f128263, a1, rfl, ⟨by omega, by omega⟩, by omega⟩
/-! StrikeAwakeModel.fault()I -/
theorem e210 : wq_en 210 = some (9, 1, false, some FieldType.int) := rfl
theorem c210_0 : mc_cd 210 0 = some (.aload_n 0, 1) := by decide +kernel
theorem c210_1 : mc_cd 210 1 = some (.iconst 0, 1) := by decide +kernel
theorem c210_2 : mc_cd 210 2 = some (.putfield 48, 3) := by decide +kernel
theorem c210_5 : mc_cd 210 5 = some (.aload_n 0, 1) := by decide +kernel
theorem c210_6 : mc_cd 210 6 = some (.getfield 104, 3) := by decide +kernel
theorem c210_9 : mc_cd 210 9 = some (.ireturn, 1) := by decide +kernel
abbrev q_210 (r0 : Nat) (T : wq_T) (H : wq_H) : Option Value → wq_T → wq_H → Prop := fun r T' H' => T = T' ∧ WT T H' ∧ wfr [(42, 0)] T H H' ∧ ∃ z : Int, some (vI z) = r ∧ ((-2147483648) ≤ z ∧ z ≤ 2147483647) ∧ (wKI H' r0 = 1)
set_option maxHeartbeats 4000000 in
theorem s_210 {kt : Nat → Option mc_E} {T : wq_T} {H : wq_H} {r0 : Nat} (hW : WT T H) (g0 : T.2.2.2 r0 = some 42) (p0 : wKI H r0 = 1) : wpc kt 1 210 [.ref r0] T H (q_210 r0 T H) := by
  refine wp_enter e210 (Nat.le_of_ble_eq_true rfl) rfl ?_
  have f0 : wfr [(42, 0)] T H H := wfr.rf
  show wp _ _ 210 0 [(0, .ref r0)] [] _ H _
  refine wp_of e210 c210_0 (rw_aload_n (pc' := 1) (v := .ref r0) rfl rfl rfl ?_)
  refine wp_of e210 c210_1 (rw_iconst (pc' := 2) rfl ?_)
  refine wp_of e210 c210_2 (xp_I (pc' := 5) lf_9_48 hW g0 sh_42 (by decide) (by decide) ty_42_0 rfl rfl (by omega) (by omega) ⟨by omega, by omega⟩ rfl (fun H129381 e129382 w129383 => ?_))
  have f129384 := f0.put' e129382 g0 rfl
  have k129385 : H129381 r0 0 = 0 := wq_u_s e129382
  refine wp_of e210 c210_5 (rw_aload_n (pc' := 6) (v := .ref r0) rfl rfl rfl ?_)
  refine wp_of e210 c210_6 (xg_I (pc' := 9) lf_9_104 w129383 g0 sh_42 (by decide) (by decide) ty_42_13 rfl rfl (fun b129386 b129387 => ?_))
  have k129388 : wKI H129381 r0 = wKI H r0 := (wKI_fr hW g0 ((wfr.rf (l := [(42, 0)])).put' e129382 g0 rfl) rfl)
  exact wp_ireturn e210 c210_9 rfl ⟨rfl, w129383, f129384, H129381 r0 13, rfl, ⟨by omega, by omega⟩, by omega⟩
/-! StrikeAwakeModel.where()I -/
theorem e211 : wq_en 211 = some (9, 1, false, some FieldType.int) := rfl
theorem c211_0 : mc_cd 211 0 = some (.aload_n 0, 1) := by decide +kernel
theorem c211_1 : mc_cd 211 1 = some (.iconst 0, 1) := by decide +kernel
theorem c211_2 : mc_cd 211 2 = some (.putfield 48, 3) := by decide +kernel
theorem c211_5 : mc_cd 211 5 = some (.aload_n 0, 1) := by decide +kernel
theorem c211_6 : mc_cd 211 6 = some (.getfield 9, 3) := by decide +kernel
theorem c211_9 : mc_cd 211 9 = some (.ireturn, 1) := by decide +kernel
/-! StrikeAwakeModel.isPerson(I)Z -/
theorem e213 : wq_en 213 = some (9, 2, false, some FieldType.boolean) := rfl
theorem c213_0 : mc_cd 213 0 = some (.aload_n 0, 1) := by decide +kernel
theorem c213_1 : mc_cd 213 1 = some (.getfield 337, 3) := by decide +kernel
theorem c213_4 : mc_cd 213 4 = some (.ifnull 22, 3) := by decide +kernel
theorem c213_7 : mc_cd 213 7 = some (.iload_n 1, 1) := by decide +kernel
theorem c213_8 : mc_cd 213 8 = some (.ifCond .lt 18, 3) := by decide +kernel
theorem c213_11 : mc_cd 213 11 = some (.iload_n 1, 1) := by decide +kernel
theorem c213_12 : mc_cd 213 12 = some (.aload_n 0, 1) := by decide +kernel
theorem c213_13 : mc_cd 213 13 = some (.getfield 337, 3) := by decide +kernel
theorem c213_16 : mc_cd 213 16 = some (.getfield 188, 3) := by decide +kernel
theorem c213_19 : mc_cd 213 19 = some (.if_icmp .ge 7, 3) := by decide +kernel
theorem c213_22 : mc_cd 213 22 = some (.iconst 1, 1) := by decide +kernel
theorem c213_23 : mc_cd 213 23 = some (.goto 4, 3) := by decide +kernel
theorem c213_26 : mc_cd 213 26 = some (.iconst 0, 1) := by decide +kernel
theorem c213_27 : mc_cd 213 27 = some (.ireturn, 1) := by decide +kernel
abbrev q_213 (r0 : Nat) (a1 : Int) (T : wq_T) (H : wq_H) : Option Value → wq_T → wq_H → Prop := fun r T' H' => T = T' ∧ H = H' ∧ ∃ z : Int, some (vI z) = r ∧ (0 ≤ z ∧ z ≤ 1) ∧ (z = 0 ∨ (H r0 3 ≠ -1 ∧ 0 ≤ a1 ∧ a1 ≤ 5))
set_option maxHeartbeats 4000000 in
theorem s_213 {kt : Nat → Option mc_E} {T : wq_T} {H : wq_H} {r0 : Nat} {a1 : Int} (hW : WT T H) (g0 : T.2.2.2 r0 = some 42) (i1 : (-2147483648) ≤ a1 ∧ a1 ≤ 2147483647) : wpc kt 1 213 [.ref r0, vI a1] T H (q_213 r0 a1 T H) := by
  refine wp_enter e213 (Nat.le_of_ble_eq_true rfl) rfl ?_
  show wp _ _ 213 0 [(0, .ref r0), (1, vI a1)] [] _ H _
  refine wp_of e213 c213_0 (rw_aload_n (pc' := 1) (v := .ref r0) rfl rfl rfl ?_)
  refine wp_of e213 c213_1 (xg_O (pc' := 4) lf_9_337 hW g0 sh_42 (by decide) (by decide) ty_42_3 rfl rfl (fun q129413 => ?_) (fun r129412 q129413 g129414 => ?_))
  · refine wp_of e213 c213_4 (rw_ifnull_n (p1 := 26) (p2 := 7) (by decide) rfl ?_)
    refine wp_of e213 c213_26 (rw_iconst (pc' := 27) rfl ?_)
    exact wp_zreturn e213 c213_27 rfl (by omega) ⟨rfl, rfl, 0, rfl, ⟨by omega, by omega⟩, by omega⟩
  · refine wp_of e213 c213_4 (rw_ifnull_r (p1 := 26) (p2 := 7) (by decide) rfl ?_)
    refine wp_of e213 c213_7 (rw_iload_n (pc' := 8) (z := a1) rfl rfl ?_)
    refine wp_of e213 c213_8 (rw_if_lt (p1 := 26) (p2 := 11) (by decide) rfl ⟨by omega, by omega⟩ (fun c129415 => ?_) (fun c129415 => ?_))
    · refine wp_of e213 c213_26 (rw_iconst (pc' := 27) rfl ?_)
      exact wp_zreturn e213 c213_27 rfl (by omega) ⟨rfl, rfl, 0, rfl, ⟨by omega, by omega⟩, by omega⟩
    · refine wp_of e213 c213_11 (rw_iload_n (pc' := 12) (z := a1) rfl rfl ?_)
      refine wp_of e213 c213_12 (rw_aload_n (pc' := 13) (v := .ref r0) rfl rfl rfl ?_)
      refine wp_of e213 c213_13 (xg_K (pc' := 16) lf_9_337 hW g0 sh_42 (by decide) (by decide) rfl q129413 rfl ?_)
      refine wp_of e213 c213_16 (xg_I (pc' := 19) lf_9_188 hW g129414 sh_54 (by decide) (by decide) ty_54_3 rfl rfl (fun b129416 b129417 => ?_))
      refine wp_of e213 c213_19 (rw_icmp_ge (p1 := 26) (p2 := 22) (by decide) rfl ⟨by omega, by omega⟩ ⟨by omega, by omega⟩ (fun c129418 => ?_) (fun c129418 => ?_))
      · refine wp_of e213 c213_26 (rw_iconst (pc' := 27) rfl ?_)
        exact wp_zreturn e213 c213_27 rfl (by omega) ⟨rfl, rfl, 0, rfl, ⟨by omega, by omega⟩, by omega⟩
      · refine wp_of e213 c213_22 (rw_iconst (pc' := 23) rfl ?_)
        refine wp_of e213 c213_23 (rw_goto (p1 := 27) (by decide) ?_)
        exact wp_zreturn e213 c213_27 rfl (by omega) ⟨rfl, rfl, 1, rfl, ⟨by omega, by omega⟩, by omega⟩
/-! StrikeAwakeModel.spans(I)I -/
theorem e212 : wq_en 212 = some (9, 2, false, some FieldType.int) := rfl
theorem c212_0 : mc_cd 212 0 = some (.aload_n 0, 1) := by decide +kernel
theorem c212_1 : mc_cd 212 1 = some (.iconst 0, 1) := by decide +kernel
theorem c212_2 : mc_cd 212 2 = some (.putfield 48, 3) := by decide +kernel
theorem c212_5 : mc_cd 212 5 = some (.aload_n 0, 1) := by decide +kernel
theorem c212_6 : mc_cd 212 6 = some (.iload_n 1, 1) := by decide +kernel
theorem c212_7 : mc_cd 212 7 = some (.invokevirtual 364, 3) := by decide +kernel
theorem c212_10 : mc_cd 212 10 = some (.ifCond .eq 16, 3) := by decide +kernel
theorem c212_13 : mc_cd 212 13 = some (.aload_n 0, 1) := by decide +kernel
theorem c212_14 : mc_cd 212 14 = some (.aload_n 0, 1) := by decide +kernel
theorem c212_15 : mc_cd 212 15 = some (.getfield 21, 3) := by decide +kernel
theorem c212_18 : mc_cd 212 18 = some (.iload_n 1, 1) := by decide +kernel
theorem c212_19 : mc_cd 212 19 = some (.iaload, 1) := by decide +kernel
theorem c212_20 : mc_cd 212 20 = some (.invokevirtual 58, 3) := by decide +kernel
theorem c212_23 : mc_cd 212 23 = some (.goto 8, 3) := by decide +kernel
theorem c212_26 : mc_cd 212 26 = some (.aload_n 0, 1) := by decide +kernel
theorem c212_27 : mc_cd 212 27 = some (.iconst 1, 1) := by decide +kernel
theorem c212_28 : mc_cd 212 28 = some (.invokevirtual 54, 3) := by decide +kernel
theorem c212_31 : mc_cd 212 31 = some (.ireturn, 1) := by decide +kernel
abbrev q_212 (r0 : Nat) (a1 : Int) (T : wq_T) (H : wq_H) : Option Value → wq_T → wq_H → Prop := fun r T' H' => T = T' ∧ WT T H' ∧ wfr [(42, 0), (42, 1), (42, 2)] T H H' ∧ ∃ z : Int, some (vI z) = r ∧ ((-2147483648) ≤ z ∧ z ≤ 2147483647) ∧ (wKI H' r0 = 1) ∧ (H' r0 2 = -1)
set_option maxHeartbeats 4000000 in
theorem s_212 {kt : Nat → Option mc_E} {T : wq_T} {H : wq_H} {r0 : Nat} {a1 : Int} (hW : WT T H) (g0 : T.2.2.2 r0 = some 42) (i1 : (-2147483648) ≤ a1 ∧ a1 ≤ 2147483647) (p0 : wKI H r0 = 1) : wpc kt 2 212 [.ref r0, vI a1] T H (q_212 r0 a1 T H) := by
  refine wp_enter e212 (Nat.le_of_ble_eq_true rfl) rfl ?_
  have f0 : wfr [(42, 0), (42, 1), (42, 2)] T H H := wfr.rf
  show wp _ _ 212 0 [(0, .ref r0), (1, vI a1)] [] _ H _
  refine wp_of e212 c212_0 (rw_aload_n (pc' := 1) (v := .ref r0) rfl rfl rfl ?_)
  refine wp_of e212 c212_1 (rw_iconst (pc' := 2) rfl ?_)
  refine wp_of e212 c212_2 (xp_I (pc' := 5) lf_9_48 hW g0 sh_42 (by decide) (by decide) ty_42_0 rfl rfl (by omega) (by omega) ⟨by omega, by omega⟩ rfl (fun H129466 e129467 w129468 => ?_))
  have f129469 := f0.put' e129467 g0 rfl
  have k129470 : H129466 r0 0 = 0 := wq_u_s e129467
  refine wp_of e212 c212_5 (rw_aload_n (pc' := 6) (v := .ref r0) rfl rfl rfl ?_)
  refine wp_of e212 c212_6 (rw_iload_n (pc' := 7) (z := a1) rfl rfl ?_)
  refine wp_of e212 c212_7 (xc_V (pc' := 10) (r := r0) (as := [vI a1]) (st := []) (lm_9_364) rfl rfl (Nat.le_of_ble_eq_true rfl) w129468 g0 sh_42 (by decide) rfl (by decide) (s_213 w129468 g0 ⟨by omega, by omega⟩) (fun R129471 T129472 H129473 p129474 => ?_))
  obtain ⟨e129475, e129477, z129479, e129476, b129480, p129478⟩ := p129474
  subst e129475
  subst e129476
  subst e129477
  show wp _ _ 212 10 [(0, .ref r0), (1, vI a1)] [vI z129479] _ H129466 _
  refine wp_of e212 c212_10 (rw_if_eq (p1 := 26) (p2 := 13) (by decide) rfl ⟨by omega, by omega⟩ (fun c129481 => ?_) (fun c129481 => ?_))
  · refine wp_of e212 c212_26 (rw_aload_n (pc' := 27) (v := .ref r0) rfl rfl rfl ?_)
    refine wp_of e212 c212_27 (rw_iconst (pc' := 28) rfl ?_)
    refine wp_of e212 c212_28 (xc_V (pc' := 31) (r := r0) (as := [vI 1]) (st := []) (lm_9_54) rfl rfl (Nat.le_of_ble_eq_true rfl) w129468 g0 sh_42 (by decide) rfl (by decide) (s_170 w129468 g0 ⟨by omega, by omega⟩) (fun R129482 T129483 H129484 p129485 => ?_))
    obtain ⟨e129486, w129488, f129489, z129491, e129487, b129492, p129490⟩ := p129485
    subst e129486
    subst e129487
    have f129493 := f129469.tr f129489 rfl
    show wp _ _ 212 31 [(0, .ref r0), (1, vI a1)] [vI z129491] _ H129484 _
    have k129494 : wKI H129484 r0 = wKI H r0 := ((wKI_fr w129468 g0 f129489 rfl).trans (wKI_fr hW g0 ((wfr.rf (l := [(42, 0)])).put' e129467 g0 rfl) rfl))
    exact wp_ireturn e212 c212_31 rfl ⟨rfl, w129488, f129493, z129491, rfl, ⟨by omega, by omega⟩, by omega, by omega⟩
  · refine wp_of e212 c212_13 (rw_aload_n (pc' := 14) (v := .ref r0) rfl rfl rfl ?_)
    refine wp_of e212 c212_14 (rw_aload_n (pc' := 15) (v := .ref r0) rfl rfl rfl ?_)
    refine wp_of e212 c212_15 (xg_R (pc' := 18) lf_9_21 w129468 g0 sh_42 (by decide) (by decide) ty_42_21 rfl rfl (fun r129495 q129496 g129497 => ?_))
    refine wp_of e212 c212_18 (rw_iload_n (pc' := 19) (z := a1) rfl rfl ?_)
    refine wp_of e212 c212_19 (xa_I (so := 0) (pc' := 20) w129468 g129497 sh_45 (by decide) (ty_45 _) (by omega) (by omega) rfl (fun b129498 b129499 => ?_))
    refine wp_of e212 c212_20 (xc_V (pc' := 23) (r := r0) (as := [vI (H129466 r129495 (a1.toNat))]) (st := []) (lm_9_58) rfl rfl (Nat.le_of_ble_eq_true rfl) w129468 g0 sh_42 (by decide) rfl (by decide) (s_209 w129468 g0 ⟨by omega, by omega⟩) (fun R129500 T129501 H129502 p129503 => ?_))
    obtain ⟨e129504, w129506, f129507, z129509, e129505, b129510, p129508⟩ := p129503
    subst e129504
    subst e129505
    have f129511 := f129469.tr f129507 rfl
    show wp _ _ 212 23 [(0, .ref r0), (1, vI a1)] [vI z129509] _ H129502 _
    refine wp_of e212 c212_23 (rw_goto (p1 := 31) (by decide) ?_)
    have k129512 : wKI H129502 r0 = wKI H r0 := ((wKI_fr w129468 g0 f129507 rfl).trans (wKI_fr hW g0 ((wfr.rf (l := [(42, 0)])).put' e129467 g0 rfl) rfl))
    exact wp_ireturn e212 c212_31 rfl ⟨rfl, w129506, f129511, z129509, rfl, ⟨by omega, by omega⟩, by omega, by omega⟩
/-! StrikeAwakeModel.isSpan(II)Z -/
theorem e215 : wq_en 215 = some (9, 3, false, some FieldType.boolean) := rfl
theorem c215_0 : mc_cd 215 0 = some (.aload_n 0, 1) := by decide +kernel
theorem c215_1 : mc_cd 215 1 = some (.iload_n 1, 1) := by decide +kernel
theorem c215_2 : mc_cd 215 2 = some (.invokevirtual 364, 3) := by decide +kernel
theorem c215_5 : mc_cd 215 5 = some (.ifCond .eq 21, 3) := by decide +kernel
theorem c215_8 : mc_cd 215 8 = some (.iload_n 2, 1) := by decide +kernel
theorem c215_9 : mc_cd 215 9 = some (.ifCond .lt 17, 3) := by decide +kernel
theorem c215_12 : mc_cd 215 12 = some (.iload_n 2, 1) := by decide +kernel
theorem c215_13 : mc_cd 215 13 = some (.aload_n 0, 1) := by decide +kernel
theorem c215_14 : mc_cd 215 14 = some (.getfield 21, 3) := by decide +kernel
theorem c215_17 : mc_cd 215 17 = some (.iload_n 1, 1) := by decide +kernel
theorem c215_18 : mc_cd 215 18 = some (.iaload, 1) := by decide +kernel
theorem c215_19 : mc_cd 215 19 = some (.if_icmp .ge 7, 3) := by decide +kernel
theorem c215_22 : mc_cd 215 22 = some (.iconst 1, 1) := by decide +kernel
theorem c215_23 : mc_cd 215 23 = some (.goto 4, 3) := by decide +kernel
theorem c215_26 : mc_cd 215 26 = some (.iconst 0, 1) := by decide +kernel
theorem c215_27 : mc_cd 215 27 = some (.ireturn, 1) := by decide +kernel
abbrev q_215 (r0 : Nat) (a1 : Int) (a2 : Int) (T : wq_T) (H : wq_H) : Option Value → wq_T → wq_H → Prop := fun r T' H' => T = T' ∧ H = H' ∧ ∃ z : Int, some (vI z) = r ∧ (0 ≤ z ∧ z ≤ 1) ∧ (z = 0 ∨ (H r0 3 ≠ -1 ∧ 0 ≤ a1 ∧ a1 ≤ 5 ∧ 0 ≤ a2 ∧ a2 ≤ 39))
set_option maxHeartbeats 4000000 in
theorem s_215 {kt : Nat → Option mc_E} {T : wq_T} {H : wq_H} {r0 : Nat} {a1 : Int} {a2 : Int} (hW : WT T H) (g0 : T.2.2.2 r0 = some 42) (i1 : (-2147483648) ≤ a1 ∧ a1 ≤ 2147483647) (i2 : (-2147483648) ≤ a2 ∧ a2 ≤ 2147483647) : wpc kt 2 215 [.ref r0, vI a1, vI a2] T H (q_215 r0 a1 a2 T H) := by
  refine wp_enter e215 (Nat.le_of_ble_eq_true rfl) rfl ?_
  show wp _ _ 215 0 [(0, .ref r0), (1, vI a1), (2, vI a2)] [] _ H _
  refine wp_of e215 c215_0 (rw_aload_n (pc' := 1) (v := .ref r0) rfl rfl rfl ?_)
  refine wp_of e215 c215_1 (rw_iload_n (pc' := 2) (z := a1) rfl rfl ?_)
  refine wp_of e215 c215_2 (xc_V (pc' := 5) (r := r0) (as := [vI a1]) (st := []) (lm_9_364) rfl rfl (Nat.le_of_ble_eq_true rfl) hW g0 sh_42 (by decide) rfl (by decide) (s_213 hW g0 ⟨by omega, by omega⟩) (fun R129531 T129532 H129533 p129534 => ?_))
  obtain ⟨e129535, e129537, z129539, e129536, b129540, p129538⟩ := p129534
  subst e129535
  subst e129536
  subst e129537
  show wp _ _ 215 5 [(0, .ref r0), (1, vI a1), (2, vI a2)] [vI z129539] _ H _
  refine wp_of e215 c215_5 (rw_if_eq (p1 := 26) (p2 := 8) (by decide) rfl ⟨by omega, by omega⟩ (fun c129541 => ?_) (fun c129541 => ?_))
  · refine wp_of e215 c215_26 (rw_iconst (pc' := 27) rfl ?_)
    exact wp_zreturn e215 c215_27 rfl (by omega) ⟨rfl, rfl, 0, rfl, ⟨by omega, by omega⟩, by omega⟩
  · refine wp_of e215 c215_8 (rw_iload_n (pc' := 9) (z := a2) rfl rfl ?_)
    refine wp_of e215 c215_9 (rw_if_lt (p1 := 26) (p2 := 12) (by decide) rfl ⟨by omega, by omega⟩ (fun c129542 => ?_) (fun c129542 => ?_))
    · refine wp_of e215 c215_26 (rw_iconst (pc' := 27) rfl ?_)
      exact wp_zreturn e215 c215_27 rfl (by omega) ⟨rfl, rfl, 0, rfl, ⟨by omega, by omega⟩, by omega⟩
    · refine wp_of e215 c215_12 (rw_iload_n (pc' := 13) (z := a2) rfl rfl ?_)
      refine wp_of e215 c215_13 (rw_aload_n (pc' := 14) (v := .ref r0) rfl rfl rfl ?_)
      refine wp_of e215 c215_14 (xg_R (pc' := 17) lf_9_21 hW g0 sh_42 (by decide) (by decide) ty_42_21 rfl rfl (fun r129543 q129544 g129545 => ?_))
      refine wp_of e215 c215_17 (rw_iload_n (pc' := 18) (z := a1) rfl rfl ?_)
      refine wp_of e215 c215_18 (xa_I (so := 0) (pc' := 19) hW g129545 sh_45 (by decide) (ty_45 _) (by omega) (by omega) rfl (fun b129546 b129547 => ?_))
      refine wp_of e215 c215_19 (rw_icmp_ge (p1 := 26) (p2 := 22) (by decide) rfl ⟨by omega, by omega⟩ ⟨by omega, by omega⟩ (fun c129548 => ?_) (fun c129548 => ?_))
      · refine wp_of e215 c215_26 (rw_iconst (pc' := 27) rfl ?_)
        exact wp_zreturn e215 c215_27 rfl (by omega) ⟨rfl, rfl, 0, rfl, ⟨by omega, by omega⟩, by omega⟩
      · refine wp_of e215 c215_22 (rw_iconst (pc' := 23) rfl ?_)
        refine wp_of e215 c215_23 (rw_goto (p1 := 27) (by decide) ?_)
        exact wp_zreturn e215 c215_27 rfl (by omega) ⟨rfl, rfl, 1, rfl, ⟨by omega, by omega⟩, by omega⟩
/-! StrikeAwakeModel.weightOf(II)I -/
theorem e216 : wq_en 216 = some (9, 5, false, some FieldType.int) := rfl
theorem c216_0 : mc_cd 216 0 = some (.aload_n 0, 1) := by decide +kernel
theorem c216_1 : mc_cd 216 1 = some (.getfield 337, 3) := by decide +kernel
theorem c216_4 : mc_cd 216 4 = some (.getfield 259, 3) := by decide +kernel
theorem c216_7 : mc_cd 216 7 = some (.iload_n 1, 1) := by decide +kernel
theorem c216_8 : mc_cd 216 8 = some (.iaload, 1) := by decide +kernel
theorem c216_9 : mc_cd 216 9 = some (.iconst (-1), 1) := by decide +kernel
theorem c216_10 : mc_cd 216 10 = some (.if_icmp .ne 5, 3) := by decide +kernel
theorem c216_13 : mc_cd 216 13 = some (.iconst 1, 1) := by decide +kernel
theorem c216_14 : mc_cd 216 14 = some (.ireturn, 1) := by decide +kernel
theorem c216_15 : mc_cd 216 15 = some (.aload_n 0, 1) := by decide +kernel
theorem c216_16 : mc_cd 216 16 = some (.getfield 24, 3) := by decide +kernel
theorem c216_19 : mc_cd 216 19 = some (.bipush 40, 2) := by decide +kernel
theorem c216_21 : mc_cd 216 21 = some (.iload_n 1, 1) := by decide +kernel
theorem c216_22 : mc_cd 216 22 = some (.imul, 1) := by decide +kernel
theorem c216_23 : mc_cd 216 23 = some (.iload_n 2, 1) := by decide +kernel
theorem c216_24 : mc_cd 216 24 = some (.iadd, 1) := by decide +kernel
theorem c216_25 : mc_cd 216 25 = some (.iaload, 1) := by decide +kernel
theorem c216_26 : mc_cd 216 26 = some (.aload_n 0, 1) := by decide +kernel
theorem c216_27 : mc_cd 216 27 = some (.getfield 337, 3) := by decide +kernel
theorem c216_30 : mc_cd 216 30 = some (.getfield 259, 3) := by decide +kernel
theorem c216_33 : mc_cd 216 33 = some (.iload_n 1, 1) := by decide +kernel
theorem c216_34 : mc_cd 216 34 = some (.iaload, 1) := by decide +kernel
theorem c216_35 : mc_cd 216 35 = some (.isub, 1) := by decide +kernel
theorem c216_36 : mc_cd 216 36 = some (.istore_n 3, 1) := by decide +kernel
theorem c216_37 : mc_cd 216 37 = some (.bipush 10, 2) := by decide +kernel
theorem c216_39 : mc_cd 216 39 = some (.iload_n 3, 1) := by decide +kernel
theorem c216_40 : mc_cd 216 40 = some (.ifCond .ge 8, 3) := by decide +kernel
theorem c216_43 : mc_cd 216 43 = some (.iload_n 3, 1) := by decide +kernel
theorem c216_44 : mc_cd 216 44 = some (.ineg, 1) := by decide +kernel
theorem c216_45 : mc_cd 216 45 = some (.goto 4, 3) := by decide +kernel
theorem c216_48 : mc_cd 216 48 = some (.iload_n 3, 1) := by decide +kernel
theorem c216_49 : mc_cd 216 49 = some (.isub, 1) := by decide +kernel
theorem c216_50 : mc_cd 216 50 = some (.istore 4, 2) := by decide +kernel
theorem c216_52 : mc_cd 216 52 = some (.iload 4, 2) := by decide +kernel
theorem c216_54 : mc_cd 216 54 = some (.iconst 1, 1) := by decide +kernel
theorem c216_55 : mc_cd 216 55 = some (.if_icmp .ge 7, 3) := by decide +kernel
theorem c216_58 : mc_cd 216 58 = some (.iconst 1, 1) := by decide +kernel
theorem c216_59 : mc_cd 216 59 = some (.goto 5, 3) := by decide +kernel
theorem c216_62 : mc_cd 216 62 = some (.iload 4, 2) := by decide +kernel
theorem c216_64 : mc_cd 216 64 = some (.ireturn, 1) := by decide +kernel
abbrev q_216 (r0 : Nat) (a1 : Int) (a2 : Int) (pp : Nat) (T : wq_T) (H : wq_H) : Option Value → wq_T → wq_H → Prop := fun r T' H' => T = T' ∧ H = H' ∧ ∃ z : Int, some (vI z) = r ∧ (1 ≤ z ∧ z ≤ 10)
set_option maxHeartbeats 4000000 in
theorem s_216 {kt : Nat → Option mc_E} {T : wq_T} {H : wq_H} {r0 : Nat} {a1 : Int} {a2 : Int} {pp : Nat} (hW : WT T H) (g0 : T.2.2.2 r0 = some 42) (i1 : 0 ≤ a1 ∧ a1 ≤ 5) (i2 : 0 ≤ a2 ∧ a2 ≤ 39) (qpp : H r0 3 = (pp : Int)) (gpp : T.2.2.2 pp = some 54) : wpc kt 1 216 [.ref r0, vI a1, vI a2] T H (q_216 r0 a1 a2 pp T H) := by
  refine wp_enter e216 (Nat.le_of_ble_eq_true rfl) rfl ?_
  show wp _ _ 216 0 [(0, .ref r0), (1, vI a1), (2, vI a2)] [] _ H _
  refine wp_of e216 c216_0 (rw_aload_n (pc' := 1) (v := .ref r0) rfl rfl rfl ?_)
  refine wp_of e216 c216_1 (xg_K (pc' := 4) lf_9_337 hW g0 sh_42 (by decide) (by decide) rfl qpp rfl ?_)
  refine wp_of e216 c216_4 (xg_R (pc' := 7) lf_9_259 hW gpp sh_54 (by decide) (by decide) ty_54_14 rfl rfl (fun r129565 q129566 g129567 => ?_))
  refine wp_of e216 c216_7 (rw_iload_n (pc' := 8) (z := a1) rfl rfl ?_)
  refine wp_of e216 c216_8 (xa_I (so := 0) (pc' := 9) hW g129567 sh_60 (by decide) (ty_60 _) (by omega) (by omega) rfl (fun b129568 b129569 => ?_))
  refine wp_of e216 c216_9 (rw_iconst (pc' := 10) rfl ?_)
  refine wp_of e216 c216_10 (rw_icmp_ne (p1 := 15) (p2 := 13) (by decide) rfl ⟨by omega, by omega⟩ ⟨by omega, by omega⟩ (fun c129570 => ?_) (fun c129570 => ?_))
  · refine wp_of e216 c216_15 (rw_aload_n (pc' := 16) (v := .ref r0) rfl rfl rfl ?_)
    refine wp_of e216 c216_16 (xg_R (pc' := 19) lf_9_24 hW g0 sh_42 (by decide) (by decide) ty_42_22 rfl rfl (fun r129571 q129572 g129573 => ?_))
    refine wp_of e216 c216_19 (rw_bipush (pc' := 21) (z := 40) rfl (by decide) ?_)
    refine wp_of e216 c216_21 (rw_iload_n (pc' := 22) (z := a1) rfl rfl ?_)
    refine wp_of e216 c216_22 (rw_imul (pc' := 23) rfl ?_)
    refine wp_of e216 c216_23 (rw_iload_n (pc' := 24) (z := a2) rfl rfl ?_)
    refine wp_of e216 c216_24 (rw_iadd (pc' := 25) rfl ?_)
    refine wp_of e216 c216_25 (xa_I (so := 0) (pc' := 26) hW g129573 sh_46 (by decide) (ty_46 _) (by omega) (by omega) rfl (fun b129574 b129575 => ?_))
    refine wp_of e216 c216_26 (rw_aload_n (pc' := 27) (v := .ref r0) rfl rfl rfl ?_)
    refine wp_of e216 c216_27 (xg_K (pc' := 30) lf_9_337 hW g0 sh_42 (by decide) (by decide) rfl qpp rfl ?_)
    refine wp_of e216 c216_30 (xg_K (pc' := 33) lf_9_259 hW gpp sh_54 (by decide) (by decide) rfl q129566 rfl ?_)
    refine wp_of e216 c216_33 (rw_iload_n (pc' := 34) (z := a1) rfl rfl ?_)
    refine wp_of e216 c216_34 (xa_I (so := 0) (pc' := 35) hW g129567 sh_60 (by decide) (ty_60 _) (by omega) (by omega) rfl (fun b129576 b129577 => ?_))
    refine wp_of e216 c216_35 (rw_isub (pc' := 36) rfl ?_)
    refine wp_of e216 c216_36 (rw_istore_n (pc' := 37) (z := (H r129571 (((40 * a1) + a2).toNat)) - (H r129565 (a1.toNat))) (L' := [(3, vI ((H r129571 (((40 * a1) + a2).toNat)) - (H r129565 (a1.toNat)))), (0, .ref r0), (1, vI a1), (2, vI a2)]) rfl rfl rfl ?_)
    refine wp_of e216 c216_37 (rw_bipush (pc' := 39) (z := 10) rfl (by decide) ?_)
    refine wp_of e216 c216_39 (rw_iload_n (pc' := 40) (z := (H r129571 (((40 * a1) + a2).toNat)) - (H r129565 (a1.toNat))) rfl rfl ?_)
    refine wp_of e216 c216_40 (rw_if_ge (p1 := 48) (p2 := 43) (by decide) rfl ⟨by omega, by omega⟩ (fun c129578 => ?_) (fun c129578 => ?_))
    · refine wp_of e216 c216_48 (rw_iload_n (pc' := 49) (z := (H r129571 (((40 * a1) + a2).toNat)) - (H r129565 (a1.toNat))) rfl rfl ?_)
      refine wp_of e216 c216_49 (rw_isub (pc' := 50) rfl ?_)
      refine wp_of e216 c216_50 (rw_istore (pc' := 52) (z := 10 - ((H r129571 (((40 * a1) + a2).toNat)) - (H r129565 (a1.toNat)))) (L' := [(4, vI (10 - ((H r129571 (((40 * a1) + a2).toNat)) - (H r129565 (a1.toNat))))), (3, vI ((H r129571 (((40 * a1) + a2).toNat)) - (H r129565 (a1.toNat)))), (0, .ref r0), (1, vI a1), (2, vI a2)]) rfl rfl rfl ?_)
      refine wp_of e216 c216_52 (rw_iload (pc' := 54) (z := 10 - ((H r129571 (((40 * a1) + a2).toNat)) - (H r129565 (a1.toNat)))) rfl rfl ?_)
      refine wp_of e216 c216_54 (rw_iconst (pc' := 55) rfl ?_)
      refine wp_of e216 c216_55 (rw_icmp_ge (p1 := 62) (p2 := 58) (by decide) rfl ⟨by omega, by omega⟩ ⟨by omega, by omega⟩ (fun c129579 => ?_) (fun c129579 => ?_))
      · refine wp_of e216 c216_62 (rw_iload (pc' := 64) (z := 10 - ((H r129571 (((40 * a1) + a2).toNat)) - (H r129565 (a1.toNat)))) rfl rfl ?_)
        exact wp_ireturn e216 c216_64 rfl ⟨rfl, rfl, 10 - ((H r129571 (((40 * a1) + a2).toNat)) - (H r129565 (a1.toNat))), rfl, ⟨by omega, by omega⟩⟩
      · refine wp_of e216 c216_58 (rw_iconst (pc' := 59) rfl ?_)
        refine wp_of e216 c216_59 (rw_goto (p1 := 64) (by decide) ?_)
        exact wp_ireturn e216 c216_64 rfl ⟨rfl, rfl, 1, rfl, ⟨by omega, by omega⟩⟩
    · refine wp_of e216 c216_43 (rw_iload_n (pc' := 44) (z := (H r129571 (((40 * a1) + a2).toNat)) - (H r129565 (a1.toNat))) rfl rfl ?_)
      refine wp_of e216 c216_44 (rw_ineg (pc' := 45) rfl ?_)
      refine wp_of e216 c216_45 (rw_goto (p1 := 49) (by decide) ?_)
      refine wp_of e216 c216_49 (rw_isub (pc' := 50) rfl ?_)
      refine wp_of e216 c216_50 (rw_istore (pc' := 52) (z := 10 - (-((H r129571 (((40 * a1) + a2).toNat)) - (H r129565 (a1.toNat))))) (L' := [(4, vI (10 - (-((H r129571 (((40 * a1) + a2).toNat)) - (H r129565 (a1.toNat)))))), (3, vI ((H r129571 (((40 * a1) + a2).toNat)) - (H r129565 (a1.toNat)))), (0, .ref r0), (1, vI a1), (2, vI a2)]) rfl rfl rfl ?_)
      refine wp_of e216 c216_52 (rw_iload (pc' := 54) (z := 10 - (-((H r129571 (((40 * a1) + a2).toNat)) - (H r129565 (a1.toNat))))) rfl rfl ?_)
      refine wp_of e216 c216_54 (rw_iconst (pc' := 55) rfl ?_)
      refine wp_of e216 c216_55 (rw_icmp_ge (p1 := 62) (p2 := 58) (by decide) rfl ⟨by omega, by omega⟩ ⟨by omega, by omega⟩ (fun c129580 => ?_) (fun c129580 => ?_))
      · refine wp_of e216 c216_62 (rw_iload (pc' := 64) (z := 10 - (-((H r129571 (((40 * a1) + a2).toNat)) - (H r129565 (a1.toNat))))) rfl rfl ?_)
        exact wp_ireturn e216 c216_64 rfl ⟨rfl, rfl, 10 - (-((H r129571 (((40 * a1) + a2).toNat)) - (H r129565 (a1.toNat)))), rfl, ⟨by omega, by omega⟩⟩
      · refine wp_of e216 c216_58 (rw_iconst (pc' := 59) rfl ?_)
        refine wp_of e216 c216_59 (rw_goto (p1 := 64) (by decide) ?_)
        exact wp_ireturn e216 c216_64 rfl ⟨rfl, rfl, 1, rfl, ⟨by omega, by omega⟩⟩
  · refine wp_of e216 c216_13 (rw_iconst (pc' := 14) rfl ?_)
    exact wp_ireturn e216 c216_14 rfl ⟨rfl, rfl, 1, rfl, ⟨by omega, by omega⟩⟩
/-! StrikeAwakeModel.span(III)I -/
theorem e214 : wq_en 214 = some (9, 4, false, some FieldType.int) := rfl
theorem c214_0 : mc_cd 214 0 = some (.aload_n 0, 1) := by decide +kernel
theorem c214_1 : mc_cd 214 1 = some (.iconst 0, 1) := by decide +kernel
theorem c214_2 : mc_cd 214 2 = some (.putfield 48, 3) := by decide +kernel
theorem c214_5 : mc_cd 214 5 = some (.aload_n 0, 1) := by decide +kernel
theorem c214_6 : mc_cd 214 6 = some (.iload_n 1, 1) := by decide +kernel
theorem c214_7 : mc_cd 214 7 = some (.iload_n 2, 1) := by decide +kernel
theorem c214_8 : mc_cd 214 8 = some (.invokevirtual 367, 3) := by decide +kernel
theorem c214_11 : mc_cd 214 11 = some (.ifCond .eq 12, 3) := by decide +kernel
theorem c214_14 : mc_cd 214 14 = some (.iload_n 3, 1) := by decide +kernel
theorem c214_15 : mc_cd 214 15 = some (.iconst 0, 1) := by decide +kernel
theorem c214_16 : mc_cd 214 16 = some (.iconst 2, 1) := by decide +kernel
theorem c214_17 : mc_cd 214 17 = some (.invokestatic 125, 3) := by decide +kernel
theorem c214_20 : mc_cd 214 20 = some (.ifCond .ne 9, 3) := by decide +kernel
theorem c214_23 : mc_cd 214 23 = some (.aload_n 0, 1) := by decide +kernel
theorem c214_24 : mc_cd 214 24 = some (.iconst 1, 1) := by decide +kernel
theorem c214_25 : mc_cd 214 25 = some (.invokevirtual 54, 3) := by decide +kernel
theorem c214_28 : mc_cd 214 28 = some (.ireturn, 1) := by decide +kernel
theorem c214_29 : mc_cd 214 29 = some (.aload_n 0, 1) := by decide +kernel
theorem c214_30 : mc_cd 214 30 = some (.iload_n 3, 1) := by decide +kernel
theorem c214_31 : mc_cd 214 31 = some (.ifCond .ne 17, 3) := by decide +kernel
theorem c214_34 : mc_cd 214 34 = some (.aload_n 0, 1) := by decide +kernel
theorem c214_35 : mc_cd 214 35 = some (.getfield 24, 3) := by decide +kernel
theorem c214_38 : mc_cd 214 38 = some (.bipush 40, 2) := by decide +kernel
theorem c214_40 : mc_cd 214 40 = some (.iload_n 1, 1) := by decide +kernel
theorem c214_41 : mc_cd 214 41 = some (.imul, 1) := by decide +kernel
theorem c214_42 : mc_cd 214 42 = some (.iload_n 2, 1) := by decide +kernel
theorem c214_43 : mc_cd 214 43 = some (.iadd, 1) := by decide +kernel
theorem c214_44 : mc_cd 214 44 = some (.iaload, 1) := by decide +kernel
theorem c214_45 : mc_cd 214 45 = some (.goto 28, 3) := by decide +kernel
theorem c214_48 : mc_cd 214 48 = some (.iload_n 3, 1) := by decide +kernel
theorem c214_49 : mc_cd 214 49 = some (.iconst 1, 1) := by decide +kernel
theorem c214_50 : mc_cd 214 50 = some (.if_icmp .ne 17, 3) := by decide +kernel
theorem c214_53 : mc_cd 214 53 = some (.aload_n 0, 1) := by decide +kernel
theorem c214_54 : mc_cd 214 54 = some (.getfield 27, 3) := by decide +kernel
theorem c214_57 : mc_cd 214 57 = some (.bipush 40, 2) := by decide +kernel
theorem c214_59 : mc_cd 214 59 = some (.iload_n 1, 1) := by decide +kernel
theorem c214_60 : mc_cd 214 60 = some (.imul, 1) := by decide +kernel
theorem c214_61 : mc_cd 214 61 = some (.iload_n 2, 1) := by decide +kernel
theorem c214_62 : mc_cd 214 62 = some (.iadd, 1) := by decide +kernel
theorem c214_63 : mc_cd 214 63 = some (.iaload, 1) := by decide +kernel
theorem c214_64 : mc_cd 214 64 = some (.goto 9, 3) := by decide +kernel
theorem c214_67 : mc_cd 214 67 = some (.aload_n 0, 1) := by decide +kernel
theorem c214_68 : mc_cd 214 68 = some (.iload_n 1, 1) := by decide +kernel
theorem c214_69 : mc_cd 214 69 = some (.iload_n 2, 1) := by decide +kernel
theorem c214_70 : mc_cd 214 70 = some (.invokevirtual 370, 3) := by decide +kernel
theorem c214_73 : mc_cd 214 73 = some (.invokevirtual 58, 3) := by decide +kernel
theorem c214_76 : mc_cd 214 76 = some (.ireturn, 1) := by decide +kernel
abbrev q_214 (r0 : Nat) (a1 : Int) (a2 : Int) (a3 : Int) (T : wq_T) (H : wq_H) : Option Value → wq_T → wq_H → Prop := fun r T' H' => T = T' ∧ WT T H' ∧ wfr [(42, 0), (42, 1), (42, 2)] T H H' ∧ ∃ z : Int, some (vI z) = r ∧ ((-2147483648) ≤ z ∧ z ≤ 2147483647) ∧ (wKI H' r0 = 1) ∧ (H' r0 2 = -1)
set_option maxHeartbeats 4000000 in
theorem s_214 {kt : Nat → Option mc_E} {T : wq_T} {H : wq_H} {r0 : Nat} {a1 : Int} {a2 : Int} {a3 : Int} (hW : WT T H) (g0 : T.2.2.2 r0 = some 42) (i1 : (-2147483648) ≤ a1 ∧ a1 ≤ 2147483647) (i2 : (-2147483648) ≤ a2 ∧ a2 ≤ 2147483647) (i3 : (-2147483648) ≤ a3 ∧ a3 ≤ 2147483647) (p0 : wKI H r0 = 1) : wpc kt 3 214 [.ref r0, vI a1, vI a2, vI a3] T H (q_214 r0 a1 a2 a3 T H) := by
  refine wp_enter e214 (Nat.le_of_ble_eq_true rfl) rfl ?_
  have f0 : wfr [(42, 0), (42, 1), (42, 2)] T H H := wfr.rf
  show wp _ _ 214 0 [(0, .ref r0), (1, vI a1), (2, vI a2), (3, vI a3)] [] _ H _
  refine wp_of e214 c214_0 (rw_aload_n (pc' := 1) (v := .ref r0) rfl rfl rfl ?_)
  refine wp_of e214 c214_1 (rw_iconst (pc' := 2) rfl ?_)
  refine wp_of e214 c214_2 (xp_I (pc' := 5) lf_9_48 hW g0 sh_42 (by decide) (by decide) ty_42_0 rfl rfl (by omega) (by omega) ⟨by omega, by omega⟩ rfl (fun H129697 e129698 w129699 => ?_))
  have f129700 := f0.put' e129698 g0 rfl
  have k129701 : H129697 r0 0 = 0 := wq_u_s e129698
  refine wp_of e214 c214_5 (rw_aload_n (pc' := 6) (v := .ref r0) rfl rfl rfl ?_)
  refine wp_of e214 c214_6 (rw_iload_n (pc' := 7) (z := a1) rfl rfl ?_)
  refine wp_of e214 c214_7 (rw_iload_n (pc' := 8) (z := a2) rfl rfl ?_)
  refine wp_of e214 c214_8 (xc_V (pc' := 11) (r := r0) (as := [vI a1, vI a2]) (st := []) (lm_9_367) rfl rfl (Nat.le_of_ble_eq_true rfl) w129699 g0 sh_42 (by decide) rfl (by decide) (s_215 w129699 g0 ⟨by omega, by omega⟩ ⟨by omega, by omega⟩) (fun R129702 T129703 H129704 p129705 => ?_))
  obtain ⟨e129706, e129708, z129710, e129707, b129711, p129709⟩ := p129705
  subst e129706
  subst e129707
  subst e129708
  show wp _ _ 214 11 [(0, .ref r0), (1, vI a1), (2, vI a2), (3, vI a3)] [vI z129710] _ H129697 _
  refine wp_of e214 c214_11 (rw_if_eq (p1 := 23) (p2 := 14) (by decide) rfl ⟨by omega, by omega⟩ (fun c129712 => ?_) (fun c129712 => ?_))
  · refine wp_of e214 c214_23 (rw_aload_n (pc' := 24) (v := .ref r0) rfl rfl rfl ?_)
    refine wp_of e214 c214_24 (rw_iconst (pc' := 25) rfl ?_)
    refine wp_of e214 c214_25 (xc_V (pc' := 28) (r := r0) (as := [vI 1]) (st := []) (lm_9_54) rfl rfl (Nat.le_of_ble_eq_true rfl) w129699 g0 sh_42 (by decide) rfl (by decide) (s_170 w129699 g0 ⟨by omega, by omega⟩) (fun R129713 T129714 H129715 p129716 => ?_))
    obtain ⟨e129717, w129719, f129720, z129722, e129718, b129723, p129721⟩ := p129716
    subst e129717
    subst e129718
    have f129724 := f129700.tr f129720 rfl
    show wp _ _ 214 28 [(0, .ref r0), (1, vI a1), (2, vI a2), (3, vI a3)] [vI z129722] _ H129715 _
    have k129725 : wKI H129715 r0 = wKI H r0 := ((wKI_fr w129699 g0 f129720 rfl).trans (wKI_fr hW g0 ((wfr.rf (l := [(42, 0)])).put' e129698 g0 rfl) rfl))
    exact wp_ireturn e214 c214_28 rfl ⟨rfl, w129719, f129724, z129722, rfl, ⟨by omega, by omega⟩, by omega, by omega⟩
  · refine wp_of e214 c214_14 (rw_iload_n (pc' := 15) (z := a3) rfl rfl ?_)
    refine wp_of e214 c214_15 (rw_iconst (pc' := 16) rfl ?_)
    refine wp_of e214 c214_16 (rw_iconst (pc' := 17) rfl ?_)
    refine wp_of e214 c214_17 (xc_S (pc' := 20) (as := [vI a3, vI 0, vI 2]) (st := []) (lm_9_125) rfl rfl (Nat.le_of_ble_eq_true rfl) rfl (by decide) (s_186 w129699 ⟨by omega, by omega⟩ ⟨by omega, by omega⟩ ⟨by omega, by omega⟩) (fun R129726 T129727 H129728 p129729 => ?_))
    obtain ⟨e129730, e129732, z129734, e129731, b129735, p129733⟩ := p129729
    subst e129730
    subst e129731
    subst e129732
    show wp _ _ 214 20 [(0, .ref r0), (1, vI a1), (2, vI a2), (3, vI a3)] [vI z129734] _ H129697 _
    refine wp_of e214 c214_20 (rw_if_ne (p1 := 29) (p2 := 23) (by decide) rfl ⟨by omega, by omega⟩ (fun c129736 => ?_) (fun c129736 => ?_))
    · refine wp_of e214 c214_29 (rw_aload_n (pc' := 30) (v := .ref r0) rfl rfl rfl ?_)
      refine wp_of e214 c214_30 (rw_iload_n (pc' := 31) (z := a3) rfl rfl ?_)
      refine wp_of e214 c214_31 (rw_if_ne (p1 := 48) (p2 := 34) (by decide) rfl ⟨by omega, by omega⟩ (fun c129737 => ?_) (fun c129737 => ?_))
      · refine wp_of e214 c214_48 (rw_iload_n (pc' := 49) (z := a3) rfl rfl ?_)
        refine wp_of e214 c214_49 (rw_iconst (pc' := 50) rfl ?_)
        refine wp_of e214 c214_50 (rw_icmp_ne (p1 := 67) (p2 := 53) (by decide) rfl ⟨by omega, by omega⟩ ⟨by omega, by omega⟩ (fun c129738 => ?_) (fun c129738 => ?_))
        · refine wp_of e214 c214_67 (rw_aload_n (pc' := 68) (v := .ref r0) rfl rfl rfl ?_)
          refine wp_of e214 c214_68 (rw_iload_n (pc' := 69) (z := a1) rfl rfl ?_)
          refine wp_of e214 c214_69 (rw_iload_n (pc' := 70) (z := a2) rfl rfl ?_)
          obtain ⟨r129739, q129740, g129741⟩ := (w129699.opt g0 (t' := 54) (n := 33) (j := 3) (p := 0) (q := 0) rfl (by decide) rfl).resolve_left (by omega)
          refine wp_of e214 c214_70 (xc_V (pc' := 73) (r := r0) (as := [vI a1, vI a2]) (st := [.ref r0]) (lm_9_370) rfl rfl (Nat.le_of_ble_eq_true rfl) w129699 g0 sh_42 (by decide) rfl (by decide) (s_216 w129699 g0 ⟨by omega, by omega⟩ ⟨by omega, by omega⟩ q129740 g129741) (fun R129742 T129743 H129744 p129745 => ?_))
          obtain ⟨e129746, e129748, z129749, e129747, b129750⟩ := p129745
          subst e129746
          subst e129747
          subst e129748
          show wp _ _ 214 73 [(0, .ref r0), (1, vI a1), (2, vI a2), (3, vI a3)] [vI z129749, .ref r0] _ H129697 _
          refine wp_of e214 c214_73 (xc_V (pc' := 76) (r := r0) (as := [vI z129749]) (st := []) (lm_9_58) rfl rfl (Nat.le_of_ble_eq_true rfl) w129699 g0 sh_42 (by decide) rfl (by decide) (s_209 w129699 g0 ⟨by omega, by omega⟩) (fun R129751 T129752 H129753 p129754 => ?_))
          obtain ⟨e129755, w129757, f129758, z129760, e129756, b129761, p129759⟩ := p129754
          subst e129755
          subst e129756
          have f129762 := f129700.tr f129758 rfl
          show wp _ _ 214 76 [(0, .ref r0), (1, vI a1), (2, vI a2), (3, vI a3)] [vI z129760] _ H129753 _
          have k129763 : wKI H129753 r0 = wKI H r0 := ((wKI_fr w129699 g0 f129758 rfl).trans (wKI_fr hW g0 ((wfr.rf (l := [(42, 0)])).put' e129698 g0 rfl) rfl))
          exact wp_ireturn e214 c214_76 rfl ⟨rfl, w129757, f129762, z129760, rfl, ⟨by omega, by omega⟩, by omega, by omega⟩
        · refine wp_of e214 c214_53 (rw_aload_n (pc' := 54) (v := .ref r0) rfl rfl rfl ?_)
          refine wp_of e214 c214_54 (xg_R (pc' := 57) lf_9_27 w129699 g0 sh_42 (by decide) (by decide) ty_42_23 rfl rfl (fun r129764 q129765 g129766 => ?_))
          refine wp_of e214 c214_57 (rw_bipush (pc' := 59) (z := 40) rfl (by decide) ?_)
          refine wp_of e214 c214_59 (rw_iload_n (pc' := 60) (z := a1) rfl rfl ?_)
          refine wp_of e214 c214_60 (rw_imul (pc' := 61) rfl ?_)
          refine wp_of e214 c214_61 (rw_iload_n (pc' := 62) (z := a2) rfl rfl ?_)
          refine wp_of e214 c214_62 (rw_iadd (pc' := 63) rfl ?_)
          refine wp_of e214 c214_63 (xa_I (so := 0) (pc' := 64) w129699 g129766 sh_47 (by decide) (ty_47 _) (by omega) (by omega) rfl (fun b129767 b129768 => ?_))
          refine wp_of e214 c214_64 (rw_goto (p1 := 73) (by decide) ?_)
          refine wp_of e214 c214_73 (xc_V (pc' := 76) (r := r0) (as := [vI (H129697 r129764 (((40 * a1) + a2).toNat))]) (st := []) (lm_9_58) rfl rfl (Nat.le_of_ble_eq_true rfl) w129699 g0 sh_42 (by decide) rfl (by decide) (s_209 w129699 g0 ⟨by omega, by omega⟩) (fun R129769 T129770 H129771 p129772 => ?_))
          obtain ⟨e129773, w129775, f129776, z129778, e129774, b129779, p129777⟩ := p129772
          subst e129773
          subst e129774
          have f129780 := f129700.tr f129776 rfl
          show wp _ _ 214 76 [(0, .ref r0), (1, vI a1), (2, vI a2), (3, vI a3)] [vI z129778] _ H129771 _
          have k129781 : wKI H129771 r0 = wKI H r0 := ((wKI_fr w129699 g0 f129776 rfl).trans (wKI_fr hW g0 ((wfr.rf (l := [(42, 0)])).put' e129698 g0 rfl) rfl))
          exact wp_ireturn e214 c214_76 rfl ⟨rfl, w129775, f129780, z129778, rfl, ⟨by omega, by omega⟩, by omega, by omega⟩
      · refine wp_of e214 c214_34 (rw_aload_n (pc' := 35) (v := .ref r0) rfl rfl rfl ?_)
        refine wp_of e214 c214_35 (xg_R (pc' := 38) lf_9_24 w129699 g0 sh_42 (by decide) (by decide) ty_42_22 rfl rfl (fun r129782 q129783 g129784 => ?_))
        refine wp_of e214 c214_38 (rw_bipush (pc' := 40) (z := 40) rfl (by decide) ?_)
        refine wp_of e214 c214_40 (rw_iload_n (pc' := 41) (z := a1) rfl rfl ?_)
        refine wp_of e214 c214_41 (rw_imul (pc' := 42) rfl ?_)
        refine wp_of e214 c214_42 (rw_iload_n (pc' := 43) (z := a2) rfl rfl ?_)
        refine wp_of e214 c214_43 (rw_iadd (pc' := 44) rfl ?_)
        refine wp_of e214 c214_44 (xa_I (so := 0) (pc' := 45) w129699 g129784 sh_46 (by decide) (ty_46 _) (by omega) (by omega) rfl (fun b129785 b129786 => ?_))
        refine wp_of e214 c214_45 (rw_goto (p1 := 73) (by decide) ?_)
        refine wp_of e214 c214_73 (xc_V (pc' := 76) (r := r0) (as := [vI (H129697 r129782 (((40 * a1) + a2).toNat))]) (st := []) (lm_9_58) rfl rfl (Nat.le_of_ble_eq_true rfl) w129699 g0 sh_42 (by decide) rfl (by decide) (s_209 w129699 g0 ⟨by omega, by omega⟩) (fun R129787 T129788 H129789 p129790 => ?_))
        obtain ⟨e129791, w129793, f129794, z129796, e129792, b129797, p129795⟩ := p129790
        subst e129791
        subst e129792
        have f129798 := f129700.tr f129794 rfl
        show wp _ _ 214 76 [(0, .ref r0), (1, vI a1), (2, vI a2), (3, vI a3)] [vI z129796] _ H129789 _
        have k129799 : wKI H129789 r0 = wKI H r0 := ((wKI_fr w129699 g0 f129794 rfl).trans (wKI_fr hW g0 ((wfr.rf (l := [(42, 0)])).put' e129698 g0 rfl) rfl))
        exact wp_ireturn e214 c214_76 rfl ⟨rfl, w129793, f129798, z129796, rfl, ⟨by omega, by omega⟩, by omega, by omega⟩
    · refine wp_of e214 c214_23 (rw_aload_n (pc' := 24) (v := .ref r0) rfl rfl rfl ?_)
      refine wp_of e214 c214_24 (rw_iconst (pc' := 25) rfl ?_)
      refine wp_of e214 c214_25 (xc_V (pc' := 28) (r := r0) (as := [vI 1]) (st := []) (lm_9_54) rfl rfl (Nat.le_of_ble_eq_true rfl) w129699 g0 sh_42 (by decide) rfl (by decide) (s_170 w129699 g0 ⟨by omega, by omega⟩) (fun R129800 T129801 H129802 p129803 => ?_))
      obtain ⟨e129804, w129806, f129807, z129809, e129805, b129810, p129808⟩ := p129803
      subst e129804
      subst e129805
      have f129811 := f129700.tr f129807 rfl
      show wp _ _ 214 28 [(0, .ref r0), (1, vI a1), (2, vI a2), (3, vI a3)] [vI z129809] _ H129802 _
      have k129812 : wKI H129802 r0 = wKI H r0 := ((wKI_fr w129699 g0 f129807 rfl).trans (wKI_fr hW g0 ((wfr.rf (l := [(42, 0)])).put' e129698 g0 rfl) rfl))
      exact wp_ireturn e214 c214_28 rfl ⟨rfl, w129806, f129811, z129809, rfl, ⟨by omega, by omega⟩, by omega, by omega⟩
/-! StrikeAwakeModel.isHour(I)Z -/
theorem e218 : wq_en 218 = some (9, 2, false, some FieldType.boolean) := rfl
theorem c218_0 : mc_cd 218 0 = some (.aload_n 0, 1) := by decide +kernel
theorem c218_1 : mc_cd 218 1 = some (.getfield 337, 3) := by decide +kernel
theorem c218_4 : mc_cd 218 4 = some (.ifnull 22, 3) := by decide +kernel
theorem c218_7 : mc_cd 218 7 = some (.iload_n 1, 1) := by decide +kernel
theorem c218_8 : mc_cd 218 8 = some (.ifCond .lt 18, 3) := by decide +kernel
theorem c218_11 : mc_cd 218 11 = some (.iload_n 1, 1) := by decide +kernel
theorem c218_12 : mc_cd 218 12 = some (.aload_n 0, 1) := by decide +kernel
theorem c218_13 : mc_cd 218 13 = some (.getfield 337, 3) := by decide +kernel
theorem c218_16 : mc_cd 218 16 = some (.getfield 185, 3) := by decide +kernel
theorem c218_19 : mc_cd 218 19 = some (.if_icmp .ge 7, 3) := by decide +kernel
theorem c218_22 : mc_cd 218 22 = some (.iconst 1, 1) := by decide +kernel
theorem c218_23 : mc_cd 218 23 = some (.goto 4, 3) := by decide +kernel
theorem c218_26 : mc_cd 218 26 = some (.iconst 0, 1) := by decide +kernel
theorem c218_27 : mc_cd 218 27 = some (.ireturn, 1) := by decide +kernel
abbrev q_218 (r0 : Nat) (a1 : Int) (T : wq_T) (H : wq_H) : Option Value → wq_T → wq_H → Prop := fun r T' H' => T = T' ∧ H = H' ∧ ∃ z : Int, some (vI z) = r ∧ (0 ≤ z ∧ z ≤ 1) ∧ (z = 0 ∨ (H r0 3 ≠ -1 ∧ 0 ≤ a1 ∧ a1 ≤ 23))
set_option maxHeartbeats 4000000 in
theorem s_218 {kt : Nat → Option mc_E} {T : wq_T} {H : wq_H} {r0 : Nat} {a1 : Int} (hW : WT T H) (g0 : T.2.2.2 r0 = some 42) (i1 : (-2147483648) ≤ a1 ∧ a1 ≤ 2147483647) : wpc kt 1 218 [.ref r0, vI a1] T H (q_218 r0 a1 T H) := by
  refine wp_enter e218 (Nat.le_of_ble_eq_true rfl) rfl ?_
  show wp _ _ 218 0 [(0, .ref r0), (1, vI a1)] [] _ H _
  refine wp_of e218 c218_0 (rw_aload_n (pc' := 1) (v := .ref r0) rfl rfl rfl ?_)
  refine wp_of e218 c218_1 (xg_O (pc' := 4) lf_9_337 hW g0 sh_42 (by decide) (by decide) ty_42_3 rfl rfl (fun q129821 => ?_) (fun r129820 q129821 g129822 => ?_))
  · refine wp_of e218 c218_4 (rw_ifnull_n (p1 := 26) (p2 := 7) (by decide) rfl ?_)
    refine wp_of e218 c218_26 (rw_iconst (pc' := 27) rfl ?_)
    exact wp_zreturn e218 c218_27 rfl (by omega) ⟨rfl, rfl, 0, rfl, ⟨by omega, by omega⟩, by omega⟩
  · refine wp_of e218 c218_4 (rw_ifnull_r (p1 := 26) (p2 := 7) (by decide) rfl ?_)
    refine wp_of e218 c218_7 (rw_iload_n (pc' := 8) (z := a1) rfl rfl ?_)
    refine wp_of e218 c218_8 (rw_if_lt (p1 := 26) (p2 := 11) (by decide) rfl ⟨by omega, by omega⟩ (fun c129823 => ?_) (fun c129823 => ?_))
    · refine wp_of e218 c218_26 (rw_iconst (pc' := 27) rfl ?_)
      exact wp_zreturn e218 c218_27 rfl (by omega) ⟨rfl, rfl, 0, rfl, ⟨by omega, by omega⟩, by omega⟩
    · refine wp_of e218 c218_11 (rw_iload_n (pc' := 12) (z := a1) rfl rfl ?_)
      refine wp_of e218 c218_12 (rw_aload_n (pc' := 13) (v := .ref r0) rfl rfl rfl ?_)
      refine wp_of e218 c218_13 (xg_K (pc' := 16) lf_9_337 hW g0 sh_42 (by decide) (by decide) rfl q129821 rfl ?_)
      refine wp_of e218 c218_16 (xg_I (pc' := 19) lf_9_185 hW g129822 sh_54 (by decide) (by decide) ty_54_0 rfl rfl (fun b129824 b129825 => ?_))
      refine wp_of e218 c218_19 (rw_icmp_ge (p1 := 26) (p2 := 22) (by decide) rfl ⟨by omega, by omega⟩ ⟨by omega, by omega⟩ (fun c129826 => ?_) (fun c129826 => ?_))
      · refine wp_of e218 c218_26 (rw_iconst (pc' := 27) rfl ?_)
        exact wp_zreturn e218 c218_27 rfl (by omega) ⟨rfl, rfl, 0, rfl, ⟨by omega, by omega⟩, by omega⟩
      · refine wp_of e218 c218_22 (rw_iconst (pc' := 23) rfl ?_)
        refine wp_of e218 c218_23 (rw_goto (p1 := 27) (by decide) ?_)
        exact wp_zreturn e218 c218_27 rfl (by omega) ⟨rfl, rfl, 1, rfl, ⟨by omega, by omega⟩, by omega⟩
/-! StrikeAwakeModel.awake(III)I -/
theorem e217 : wq_en 217 = some (9, 4, false, some FieldType.int) := rfl
theorem c217_0 : mc_cd 217 0 = some (.aload_n 0, 1) := by decide +kernel
theorem c217_1 : mc_cd 217 1 = some (.iconst 0, 1) := by decide +kernel
theorem c217_2 : mc_cd 217 2 = some (.putfield 48, 3) := by decide +kernel
theorem c217_5 : mc_cd 217 5 = some (.aload_n 0, 1) := by decide +kernel
theorem c217_6 : mc_cd 217 6 = some (.iload_n 1, 1) := by decide +kernel
theorem c217_7 : mc_cd 217 7 = some (.iload_n 2, 1) := by decide +kernel
theorem c217_8 : mc_cd 217 8 = some (.invokevirtual 367, 3) := by decide +kernel
theorem c217_11 : mc_cd 217 11 = some (.ifCond .eq 41, 3) := by decide +kernel
theorem c217_14 : mc_cd 217 14 = some (.aload_n 0, 1) := by decide +kernel
theorem c217_15 : mc_cd 217 15 = some (.iload_n 3, 1) := by decide +kernel
theorem c217_16 : mc_cd 217 16 = some (.invokevirtual 373, 3) := by decide +kernel
theorem c217_19 : mc_cd 217 19 = some (.ifCond .eq 33, 3) := by decide +kernel
theorem c217_22 : mc_cd 217 22 = some (.aload_n 0, 1) := by decide +kernel
theorem c217_23 : mc_cd 217 23 = some (.aload_n 0, 1) := by decide +kernel
theorem c217_24 : mc_cd 217 24 = some (.getfield 33, 3) := by decide +kernel
theorem c217_27 : mc_cd 217 27 = some (.bipush 40, 2) := by decide +kernel
theorem c217_29 : mc_cd 217 29 = some (.iload_n 1, 1) := by decide +kernel
theorem c217_30 : mc_cd 217 30 = some (.imul, 1) := by decide +kernel
theorem c217_31 : mc_cd 217 31 = some (.iload_n 2, 1) := by decide +kernel
theorem c217_32 : mc_cd 217 32 = some (.iadd, 1) := by decide +kernel
theorem c217_33 : mc_cd 217 33 = some (.iaload, 1) := by decide +kernel
theorem c217_34 : mc_cd 217 34 = some (.iload_n 3, 1) := by decide +kernel
theorem c217_35 : mc_cd 217 35 = some (.invokestatic 346, 3) := by decide +kernel
theorem c217_38 : mc_cd 217 38 = some (.ifCond .eq 7, 3) := by decide +kernel
theorem c217_41 : mc_cd 217 41 = some (.iconst 1, 1) := by decide +kernel
theorem c217_42 : mc_cd 217 42 = some (.goto 4, 3) := by decide +kernel
theorem c217_45 : mc_cd 217 45 = some (.iconst 0, 1) := by decide +kernel
theorem c217_46 : mc_cd 217 46 = some (.invokevirtual 58, 3) := by decide +kernel
theorem c217_49 : mc_cd 217 49 = some (.goto 8, 3) := by decide +kernel
theorem c217_52 : mc_cd 217 52 = some (.aload_n 0, 1) := by decide +kernel
theorem c217_53 : mc_cd 217 53 = some (.iconst 1, 1) := by decide +kernel
theorem c217_54 : mc_cd 217 54 = some (.invokevirtual 54, 3) := by decide +kernel
theorem c217_57 : mc_cd 217 57 = some (.ireturn, 1) := by decide +kernel
abbrev q_217 (r0 : Nat) (a1 : Int) (a2 : Int) (a3 : Int) (T : wq_T) (H : wq_H) : Option Value → wq_T → wq_H → Prop := fun r T' H' => T = T' ∧ WT T H' ∧ wfr [(42, 0), (42, 1), (42, 2)] T H H' ∧ ∃ z : Int, some (vI z) = r ∧ ((-2147483648) ≤ z ∧ z ≤ 2147483647) ∧ (wKI H' r0 = 1) ∧ (H' r0 2 = -1)
set_option maxHeartbeats 4000000 in
theorem s_217 {kt : Nat → Option mc_E} {T : wq_T} {H : wq_H} {r0 : Nat} {a1 : Int} {a2 : Int} {a3 : Int} (hW : WT T H) (g0 : T.2.2.2 r0 = some 42) (i1 : (-2147483648) ≤ a1 ∧ a1 ≤ 2147483647) (i2 : (-2147483648) ≤ a2 ∧ a2 ≤ 2147483647) (i3 : (-2147483648) ≤ a3 ∧ a3 ≤ 2147483647) (p0 : wKI H r0 = 1) : wpc kt 3 217 [.ref r0, vI a1, vI a2, vI a3] T H (q_217 r0 a1 a2 a3 T H) := by
  refine wp_enter e217 (Nat.le_of_ble_eq_true rfl) rfl ?_
  have f0 : wfr [(42, 0), (42, 1), (42, 2)] T H H := wfr.rf
  show wp _ _ 217 0 [(0, .ref r0), (1, vI a1), (2, vI a2), (3, vI a3)] [] _ H _
  refine wp_of e217 c217_0 (rw_aload_n (pc' := 1) (v := .ref r0) rfl rfl rfl ?_)
  refine wp_of e217 c217_1 (rw_iconst (pc' := 2) rfl ?_)
  refine wp_of e217 c217_2 (xp_I (pc' := 5) lf_9_48 hW g0 sh_42 (by decide) (by decide) ty_42_0 rfl rfl (by omega) (by omega) ⟨by omega, by omega⟩ rfl (fun H129921 e129922 w129923 => ?_))
  have f129924 := f0.put' e129922 g0 rfl
  have k129925 : H129921 r0 0 = 0 := wq_u_s e129922
  refine wp_of e217 c217_5 (rw_aload_n (pc' := 6) (v := .ref r0) rfl rfl rfl ?_)
  refine wp_of e217 c217_6 (rw_iload_n (pc' := 7) (z := a1) rfl rfl ?_)
  refine wp_of e217 c217_7 (rw_iload_n (pc' := 8) (z := a2) rfl rfl ?_)
  refine wp_of e217 c217_8 (xc_V (pc' := 11) (r := r0) (as := [vI a1, vI a2]) (st := []) (lm_9_367) rfl rfl (Nat.le_of_ble_eq_true rfl) w129923 g0 sh_42 (by decide) rfl (by decide) (s_215 w129923 g0 ⟨by omega, by omega⟩ ⟨by omega, by omega⟩) (fun R129926 T129927 H129928 p129929 => ?_))
  obtain ⟨e129930, e129932, z129934, e129931, b129935, p129933⟩ := p129929
  subst e129930
  subst e129931
  subst e129932
  show wp _ _ 217 11 [(0, .ref r0), (1, vI a1), (2, vI a2), (3, vI a3)] [vI z129934] _ H129921 _
  refine wp_of e217 c217_11 (rw_if_eq (p1 := 52) (p2 := 14) (by decide) rfl ⟨by omega, by omega⟩ (fun c129936 => ?_) (fun c129936 => ?_))
  · refine wp_of e217 c217_52 (rw_aload_n (pc' := 53) (v := .ref r0) rfl rfl rfl ?_)
    refine wp_of e217 c217_53 (rw_iconst (pc' := 54) rfl ?_)
    refine wp_of e217 c217_54 (xc_V (pc' := 57) (r := r0) (as := [vI 1]) (st := []) (lm_9_54) rfl rfl (Nat.le_of_ble_eq_true rfl) w129923 g0 sh_42 (by decide) rfl (by decide) (s_170 w129923 g0 ⟨by omega, by omega⟩) (fun R129937 T129938 H129939 p129940 => ?_))
    obtain ⟨e129941, w129943, f129944, z129946, e129942, b129947, p129945⟩ := p129940
    subst e129941
    subst e129942
    have f129948 := f129924.tr f129944 rfl
    show wp _ _ 217 57 [(0, .ref r0), (1, vI a1), (2, vI a2), (3, vI a3)] [vI z129946] _ H129939 _
    have k129949 : wKI H129939 r0 = wKI H r0 := ((wKI_fr w129923 g0 f129944 rfl).trans (wKI_fr hW g0 ((wfr.rf (l := [(42, 0)])).put' e129922 g0 rfl) rfl))
    exact wp_ireturn e217 c217_57 rfl ⟨rfl, w129943, f129948, z129946, rfl, ⟨by omega, by omega⟩, by omega, by omega⟩
  · refine wp_of e217 c217_14 (rw_aload_n (pc' := 15) (v := .ref r0) rfl rfl rfl ?_)
    refine wp_of e217 c217_15 (rw_iload_n (pc' := 16) (z := a3) rfl rfl ?_)
    refine wp_of e217 c217_16 (xc_V (pc' := 19) (r := r0) (as := [vI a3]) (st := []) (lm_9_373) rfl rfl (Nat.le_of_ble_eq_true rfl) w129923 g0 sh_42 (by decide) rfl (by decide) (s_218 w129923 g0 ⟨by omega, by omega⟩) (fun R129950 T129951 H129952 p129953 => ?_))
    obtain ⟨e129954, e129956, z129958, e129955, b129959, p129957⟩ := p129953
    subst e129954
    subst e129955
    subst e129956
    show wp _ _ 217 19 [(0, .ref r0), (1, vI a1), (2, vI a2), (3, vI a3)] [vI z129958] _ H129921 _
    refine wp_of e217 c217_19 (rw_if_eq (p1 := 52) (p2 := 22) (by decide) rfl ⟨by omega, by omega⟩ (fun c129960 => ?_) (fun c129960 => ?_))
    · refine wp_of e217 c217_52 (rw_aload_n (pc' := 53) (v := .ref r0) rfl rfl rfl ?_)
      refine wp_of e217 c217_53 (rw_iconst (pc' := 54) rfl ?_)
      refine wp_of e217 c217_54 (xc_V (pc' := 57) (r := r0) (as := [vI 1]) (st := []) (lm_9_54) rfl rfl (Nat.le_of_ble_eq_true rfl) w129923 g0 sh_42 (by decide) rfl (by decide) (s_170 w129923 g0 ⟨by omega, by omega⟩) (fun R129961 T129962 H129963 p129964 => ?_))
      obtain ⟨e129965, w129967, f129968, z129970, e129966, b129971, p129969⟩ := p129964
      subst e129965
      subst e129966
      have f129972 := f129924.tr f129968 rfl
      show wp _ _ 217 57 [(0, .ref r0), (1, vI a1), (2, vI a2), (3, vI a3)] [vI z129970] _ H129963 _
      have k129973 : wKI H129963 r0 = wKI H r0 := ((wKI_fr w129923 g0 f129968 rfl).trans (wKI_fr hW g0 ((wfr.rf (l := [(42, 0)])).put' e129922 g0 rfl) rfl))
      exact wp_ireturn e217 c217_57 rfl ⟨rfl, w129967, f129972, z129970, rfl, ⟨by omega, by omega⟩, by omega, by omega⟩
    · refine wp_of e217 c217_22 (rw_aload_n (pc' := 23) (v := .ref r0) rfl rfl rfl ?_)
      refine wp_of e217 c217_23 (rw_aload_n (pc' := 24) (v := .ref r0) rfl rfl rfl ?_)
      refine wp_of e217 c217_24 (xg_R (pc' := 27) lf_9_33 w129923 g0 sh_42 (by decide) (by decide) ty_42_25 rfl rfl (fun r129974 q129975 g129976 => ?_))
      refine wp_of e217 c217_27 (rw_bipush (pc' := 29) (z := 40) rfl (by decide) ?_)
      refine wp_of e217 c217_29 (rw_iload_n (pc' := 30) (z := a1) rfl rfl ?_)
      refine wp_of e217 c217_30 (rw_imul (pc' := 31) rfl ?_)
      refine wp_of e217 c217_31 (rw_iload_n (pc' := 32) (z := a2) rfl rfl ?_)
      refine wp_of e217 c217_32 (rw_iadd (pc' := 33) rfl ?_)
      refine wp_of e217 c217_33 (xa_I (so := 0) (pc' := 34) w129923 g129976 sh_49 (by decide) (ty_49 _) (by omega) (by omega) rfl (fun b129977 b129978 => ?_))
      refine wp_of e217 c217_34 (rw_iload_n (pc' := 35) (z := a3) rfl rfl ?_)
      refine wp_of e217 c217_35 (xc_S (pc' := 38) (as := [vI (H129921 r129974 (((40 * a1) + a2).toNat)), vI a3]) (st := [.ref r0]) (lm_9_346) rfl rfl (Nat.le_of_ble_eq_true rfl) rfl (by decide) (s_205 w129923 ⟨by omega, by omega⟩ ⟨by omega, by omega⟩) (fun R129979 T129980 H129981 p129982 => ?_))
      obtain ⟨e129983, e129985, z129986, e129984, b129987⟩ := p129982
      subst e129983
      subst e129984
      subst e129985
      show wp _ _ 217 38 [(0, .ref r0), (1, vI a1), (2, vI a2), (3, vI a3)] [vI z129986, .ref r0] _ H129921 _
      refine wp_of e217 c217_38 (rw_if_eq (p1 := 45) (p2 := 41) (by decide) rfl ⟨by omega, by omega⟩ (fun c129988 => ?_) (fun c129988 => ?_))
      · refine wp_of e217 c217_45 (rw_iconst (pc' := 46) rfl ?_)
        refine wp_of e217 c217_46 (xc_V (pc' := 49) (r := r0) (as := [vI 0]) (st := []) (lm_9_58) rfl rfl (Nat.le_of_ble_eq_true rfl) w129923 g0 sh_42 (by decide) rfl (by decide) (s_209 w129923 g0 ⟨by omega, by omega⟩) (fun R129989 T129990 H129991 p129992 => ?_))
        obtain ⟨e129993, w129995, f129996, z129998, e129994, b129999, p129997⟩ := p129992
        subst e129993
        subst e129994
        have f130000 := f129924.tr f129996 rfl
        show wp _ _ 217 49 [(0, .ref r0), (1, vI a1), (2, vI a2), (3, vI a3)] [vI z129998] _ H129991 _
        refine wp_of e217 c217_49 (rw_goto (p1 := 57) (by decide) ?_)
        have k130001 : wKI H129991 r0 = wKI H r0 := ((wKI_fr w129923 g0 f129996 rfl).trans (wKI_fr hW g0 ((wfr.rf (l := [(42, 0)])).put' e129922 g0 rfl) rfl))
        exact wp_ireturn e217 c217_57 rfl ⟨rfl, w129995, f130000, z129998, rfl, ⟨by omega, by omega⟩, by omega, by omega⟩
      · refine wp_of e217 c217_41 (rw_iconst (pc' := 42) rfl ?_)
        refine wp_of e217 c217_42 (rw_goto (p1 := 46) (by decide) ?_)
        refine wp_of e217 c217_46 (xc_V (pc' := 49) (r := r0) (as := [vI 1]) (st := []) (lm_9_58) rfl rfl (Nat.le_of_ble_eq_true rfl) w129923 g0 sh_42 (by decide) rfl (by decide) (s_209 w129923 g0 ⟨by omega, by omega⟩) (fun R130002 T130003 H130004 p130005 => ?_))
        obtain ⟨e130006, w130008, f130009, z130011, e130007, b130012, p130010⟩ := p130005
        subst e130006
        subst e130007
        have f130013 := f129924.tr f130009 rfl
        show wp _ _ 217 49 [(0, .ref r0), (1, vI a1), (2, vI a2), (3, vI a3)] [vI z130011] _ H130004 _
        refine wp_of e217 c217_49 (rw_goto (p1 := 57) (by decide) ?_)
        have k130014 : wKI H130004 r0 = wKI H r0 := ((wKI_fr w129923 g0 f130009 rfl).trans (wKI_fr hW g0 ((wfr.rf (l := [(42, 0)])).put' e129922 g0 rfl) rfl))
        exact wp_ireturn e217 c217_57 rfl ⟨rfl, w130008, f130013, z130011, rfl, ⟨by omega, by omega⟩, by omega, by omega⟩
/-! StrikeAwakeModel.lotsMany()J -/
theorem e220 : wq_en 220 = some (9, 4, false, some FieldType.long) := rfl
theorem c220_0 : mc_cd 220 0 = some (.lconst 1, 1) := by decide +kernel
theorem c220_1 : mc_cd 220 1 = some (.lstore_n 1, 1) := by decide +kernel
theorem c220_2 : mc_cd 220 2 = some (.iconst 0, 1) := by decide +kernel
theorem c220_3 : mc_cd 220 3 = some (.istore_n 3, 1) := by decide +kernel
theorem c220_4 : mc_cd 220 4 = some (.iload_n 3, 1) := by decide +kernel
theorem c220_5 : mc_cd 220 5 = some (.aload_n 0, 1) := by decide +kernel
theorem c220_6 : mc_cd 220 6 = some (.getfield 337, 3) := by decide +kernel
theorem c220_9 : mc_cd 220 9 = some (.getfield 188, 3) := by decide +kernel
theorem c220_12 : mc_cd 220 12 = some (.if_icmp .ge 19, 3) := by decide +kernel
theorem c220_15 : mc_cd 220 15 = some (.lload_n 1, 1) := by decide +kernel
theorem c220_16 : mc_cd 220 16 = some (.aload_n 0, 1) := by decide +kernel
theorem c220_17 : mc_cd 220 17 = some (.getfield 21, 3) := by decide +kernel
theorem c220_20 : mc_cd 220 20 = some (.iload_n 3, 1) := by decide +kernel
theorem c220_21 : mc_cd 220 21 = some (.iaload, 1) := by decide +kernel
theorem c220_22 : mc_cd 220 22 = some (.i2l, 1) := by decide +kernel
theorem c220_23 : mc_cd 220 23 = some (.lmul, 1) := by decide +kernel
theorem c220_24 : mc_cd 220 24 = some (.lstore_n 1, 1) := by decide +kernel
theorem c220_25 : mc_cd 220 25 = some (.iinc 3 1, 3) := by decide +kernel
theorem c220_28 : mc_cd 220 28 = some (.goto (-24), 3) := by decide +kernel
theorem c220_31 : mc_cd 220 31 = some (.lload_n 1, 1) := by decide +kernel
theorem c220_32 : mc_cd 220 32 = some (.lreturn, 1) := by decide +kernel
abbrev q_220 (r0 : Nat) (pp : Nat) (T : wq_T) (H : wq_H) : Option Value → wq_T → wq_H → Prop := fun r T' H' => T = T' ∧ H = H' ∧ ∃ z : Int, some (vL z) = r ∧ (0 ≤ z ∧ z ≤ 4096000000) ∧ (z = wLM H r0)
set_option maxHeartbeats 4000000 in
theorem s_220 {kt : Nat → Option mc_E} {T : wq_T} {H : wq_H} {r0 : Nat} {pp : Nat} (hW : WT T H) (g0 : T.2.2.2 r0 = some 42) (qpp : H r0 3 = (pp : Int)) (gpp : T.2.2.2 pp = some 54) : wpc kt 1 220 [.ref r0] T H (q_220 r0 pp T H) := by
  refine wp_enter e220 (Nat.le_of_ble_eq_true rfl) rfl ?_
  show wp _ _ 220 0 [(0, .ref r0)] [] _ H _
  refine wp_of e220 c220_0 (rw_lconst (pc' := 1) (z := 1) rfl rfl ?_)
  refine wp_of e220 c220_1 (rw_lstore_n (pc' := 2) (z := 1) (L' := [(1, vL 1), (0, .ref r0)]) rfl rfl rfl ?_)
  refine wp_of e220 c220_2 (rw_iconst (pc' := 3) rfl ?_)
  refine wp_of e220 c220_3 (rw_istore_n (pc' := 4) (z := 0) (L' := [(3, vI 0), (1, vL 1), (0, .ref r0)]) rfl rfl rfl ?_)
  obtain ⟨r130195, q130196, g130197⟩ := hW.ref g0 (t' := 45) (n := 33) (j := 21) (p := 0) (q := 0) rfl (by decide) rfl
  have b130198 : 0 ≤ H pp 3 ∧ H pp 3 ≤ 6 := hW.box gpp (n := 27) rfl (by decide) rfl
  have lp130190 : ∀ (n130191 : Nat) (v130193 : Int) (v130194 : Int), (0 ≤ v130193 ∧ v130193 ≤ 6) → (0 ≤ v130194 ∧ v130194 ≤ 4096000000) → (v130193 ≤ H pp 3) → (v130194 = wpr (H r130195) (v130193).toNat) → (6 - v130193).toNat = n130191 → wp kt 0 220 4 [(3, vI v130193), (1, vL v130194), (0, .ref r0)] [] T H (q_220 r0 pp T H) := by
    intro n130191
    induction n130191 using Nat.strongRecOn with
    | _ n130191 ih130192 =>
      intro v130193 v130194 b130201 b130202 x130203 x130204 m130205
      have hx : H pp 3 = v130193 → v130194 = wLM H r0 := fun q => by
        rw [wLM_eq qpp q130196, q]
        assumption
      have hb := (wpr_b (f := H r130195) (fun j hj => hW.box g130197 (n := 6) rfl hj rfl) (v130193).toNat (by omega)).2
      have hc := w40 (n := (v130193).toNat) (by omega)
      refine wp_of e220 c220_4 (rw_iload_n (pc' := 5) (z := v130193) rfl rfl ?_)
      refine wp_of e220 c220_5 (rw_aload_n (pc' := 6) (v := .ref r0) rfl rfl rfl ?_)
      refine wp_of e220 c220_6 (xg_K (pc' := 9) lf_9_337 hW g0 sh_42 (by decide) (by decide) rfl qpp rfl ?_)
      refine wp_of e220 c220_9 (xg_I (pc' := 12) lf_9_188 hW gpp sh_54 (by decide) (by decide) ty_54_3 rfl rfl (fun b130206 b130207 => ?_))
      refine wp_of e220 c220_12 (rw_icmp_ge (p1 := 31) (p2 := 15) (by decide) rfl ⟨by omega, by omega⟩ ⟨by omega, by omega⟩ (fun c130208 => ?_) (fun c130208 => ?_))
      · refine wp_of e220 c220_31 (rw_lload_n (pc' := 32) (z := v130194) rfl rfl ?_)
        exact wp_lreturn e220 c220_32 rfl ⟨rfl, rfl, v130194, rfl, ⟨by omega, by omega⟩, by omega⟩
      · refine wp_of e220 c220_15 (rw_lload_n (pc' := 16) (z := v130194) rfl rfl ?_)
        refine wp_of e220 c220_16 (rw_aload_n (pc' := 17) (v := .ref r0) rfl rfl rfl ?_)
        refine wp_of e220 c220_17 (xg_K (pc' := 20) lf_9_21 hW g0 sh_42 (by decide) (by decide) rfl q130196 rfl ?_)
        refine wp_of e220 c220_20 (rw_iload_n (pc' := 21) (z := v130193) rfl rfl ?_)
        refine wp_of e220 c220_21 (xa_I (so := 0) (pc' := 22) hW g130197 sh_45 (by decide) (ty_45 _) (by omega) (by omega) rfl (fun b130209 b130210 => ?_))
        refine wp_of e220 c220_22 (rw_i2l (pc' := 23) rfl ⟨by omega, by omega⟩ ?_)
        refine wp_of e220 c220_23 (rw_lmul (pc' := 24) rfl ?_)
        obtain ⟨v130211, e130212⟩ : ∃ x : Int, x = v130194 * (H r130195 (v130193.toNat)) := ⟨_, rfl⟩
        rw [← e130212]
        have b130213 : 0 ≤ v130211 ∧ v130211 ≤ 163840000000 := by
          rw [e130212]
          exact wl_mul_b (a := 4096000000) (b := 40) ⟨by omega, by omega⟩ ⟨by omega, by omega⟩
        refine wp_of e220 c220_24 (rw_lstore_n (pc' := 25) (z := v130211) (L' := [(1, vL v130211), (3, vI v130193), (0, .ref r0)]) rfl rfl rfl ?_)
        refine wp_of e220 c220_25 (rw_iinc (pc' := 28) (z := v130193) (L' := [(3, vI (v130193 + 1)), (1, vL v130211), (0, .ref r0)]) rfl rfl rfl rfl ?_)
        refine wp_of e220 c220_28 (rw_goto (p1 := 4) (by decide) ?_)
        have hy : v130211 = wpr (H r130195) ((v130193 + 1)).toNat := wpr_s (by assumption) (by assumption) (by omega)
        have hz := (wpr_b (f := H r130195) (fun j hj => hW.box g130197 (n := 6) rfl hj rfl) ((v130193 + 1)).toNat (by omega)).2
        have hw := w40 (n := ((v130193 + 1)).toNat) (by omega)
        exact wp_lc (ks := [3, 1, 0]) (wl_c rfl (wl_c rfl (wl_c rfl wl_n))) rfl (by decide) (ih130192 _ (by omega) (v130193 + 1) v130211 ⟨by omega, by omega⟩ ⟨by omega, by omega⟩ (by omega) (by assumption) rfl)
  exact wp_lc (ks := [3, 1, 0]) (wl_c rfl (wl_c rfl (wl_c rfl wl_n))) rfl (by decide) (lp130190 _ 0 1 ⟨by omega, by omega⟩ ⟨by omega, by omega⟩ (by omega) (rfl) rfl)
/-! StrikeAwakeModel.doneLong(J)J -/
theorem e221 : wq_en 221 = some (9, 3, false, some FieldType.long) := rfl
theorem c221_0 : mc_cd 221 0 = some (.aload_n 0, 1) := by decide +kernel
theorem c221_1 : mc_cd 221 1 = some (.iconst 0, 1) := by decide +kernel
theorem c221_2 : mc_cd 221 2 = some (.invokevirtual 58, 3) := by decide +kernel
theorem c221_5 : mc_cd 221 5 = some (.pop, 1) := by decide +kernel
theorem c221_6 : mc_cd 221 6 = some (.lload_n 1, 1) := by decide +kernel
theorem c221_7 : mc_cd 221 7 = some (.lreturn, 1) := by decide +kernel
abbrev q_221 (r0 : Nat) (a1 : Int) (T : wq_T) (H : wq_H) : Option Value → wq_T → wq_H → Prop := fun r T' H' => T = T' ∧ WT T H' ∧ wfr [(42, 1), (42, 2)] T H H' ∧ ∃ z : Int, some (vL z) = r ∧ ((-9223372036854775808) ≤ z ∧ z ≤ 9223372036854775807) ∧ (H' r0 2 = -1)
set_option maxHeartbeats 4000000 in
theorem s_221 {kt : Nat → Option mc_E} {T : wq_T} {H : wq_H} {r0 : Nat} {a1 : Int} (hW : WT T H) (g0 : T.2.2.2 r0 = some 42) (i1 : (-9223372036854775808) ≤ a1 ∧ a1 ≤ 9223372036854775807) : wpc kt 2 221 [.ref r0, vL a1] T H (q_221 r0 a1 T H) := by
  refine wp_enter e221 (Nat.le_of_ble_eq_true rfl) rfl ?_
  have f0 : wfr [(42, 1), (42, 2)] T H H := wfr.rf
  show wp _ _ 221 0 [(0, .ref r0), (1, vL a1)] [] _ H _
  refine wp_of e221 c221_0 (rw_aload_n (pc' := 1) (v := .ref r0) rfl rfl rfl ?_)
  refine wp_of e221 c221_1 (rw_iconst (pc' := 2) rfl ?_)
  refine wp_of e221 c221_2 (xc_V (pc' := 5) (r := r0) (as := [vI 0]) (st := []) (lm_9_58) rfl rfl (Nat.le_of_ble_eq_true rfl) hW g0 sh_42 (by decide) rfl (by decide) (s_209 hW g0 ⟨by omega, by omega⟩) (fun R130226 T130227 H130228 p130229 => ?_))
  obtain ⟨e130230, w130232, f130233, z130235, e130231, b130236, p130234⟩ := p130229
  subst e130230
  subst e130231
  have f130237 := f0.tr f130233 rfl
  show wp _ _ 221 5 [(0, .ref r0), (1, vL a1)] [vI z130235] _ H130228 _
  refine wp_of e221 c221_5 (rw_pop (pc' := 6) rfl rfl ?_)
  refine wp_of e221 c221_6 (rw_lload_n (pc' := 7) (z := a1) rfl rfl ?_)
  exact wp_lreturn e221 c221_7 rfl ⟨rfl, w130232, f130237, a1, rfl, ⟨by omega, by omega⟩, by omega⟩
/-! StrikeAwakeModel.lots()J -/
theorem e219 : wq_en 219 = some (9, 1, false, some FieldType.long) := rfl
theorem c219_0 : mc_cd 219 0 = some (.aload_n 0, 1) := by decide +kernel
theorem c219_1 : mc_cd 219 1 = some (.iconst 0, 1) := by decide +kernel
theorem c219_2 : mc_cd 219 2 = some (.putfield 48, 3) := by decide +kernel
theorem c219_5 : mc_cd 219 5 = some (.aload_n 0, 1) := by decide +kernel
theorem c219_6 : mc_cd 219 6 = some (.getfield 337, 3) := by decide +kernel
theorem c219_9 : mc_cd 219 9 = some (.ifnonnull 12, 3) := by decide +kernel
theorem c219_12 : mc_cd 219 12 = some (.aload_n 0, 1) := by decide +kernel
theorem c219_13 : mc_cd 219 13 = some (.iconst 1, 1) := by decide +kernel
theorem c219_14 : mc_cd 219 14 = some (.invokevirtual 54, 3) := by decide +kernel
theorem c219_17 : mc_cd 219 17 = some (.i2l, 1) := by decide +kernel
theorem c219_18 : mc_cd 219 18 = some (.goto 11, 3) := by decide +kernel
theorem c219_21 : mc_cd 219 21 = some (.aload_n 0, 1) := by decide +kernel
theorem c219_22 : mc_cd 219 22 = some (.aload_n 0, 1) := by decide +kernel
theorem c219_23 : mc_cd 219 23 = some (.invokevirtual 376, 3) := by decide +kernel
theorem c219_26 : mc_cd 219 26 = some (.invokevirtual 380, 3) := by decide +kernel
theorem c219_29 : mc_cd 219 29 = some (.lreturn, 1) := by decide +kernel
abbrev q_219 (r0 : Nat) (T : wq_T) (H : wq_H) : Option Value → wq_T → wq_H → Prop := fun r T' H' => T = T' ∧ WT T H' ∧ wfr [(42, 0), (42, 1), (42, 2)] T H H' ∧ ∃ z : Int, some (vL z) = r ∧ ((-9223372036854775808) ≤ z ∧ z ≤ 9223372036854775807) ∧ (wKI H' r0 = 1) ∧ (H' r0 2 = -1)
set_option maxHeartbeats 4000000 in
theorem s_219 {kt : Nat → Option mc_E} {T : wq_T} {H : wq_H} {r0 : Nat} (hW : WT T H) (g0 : T.2.2.2 r0 = some 42) (p0 : wKI H r0 = 1) : wpc kt 3 219 [.ref r0] T H (q_219 r0 T H) := by
  refine wp_enter e219 (Nat.le_of_ble_eq_true rfl) rfl ?_
  have f0 : wfr [(42, 0), (42, 1), (42, 2)] T H H := wfr.rf
  show wp _ _ 219 0 [(0, .ref r0)] [] _ H _
  refine wp_of e219 c219_0 (rw_aload_n (pc' := 1) (v := .ref r0) rfl rfl rfl ?_)
  refine wp_of e219 c219_1 (rw_iconst (pc' := 2) rfl ?_)
  refine wp_of e219 c219_2 (xp_I (pc' := 5) lf_9_48 hW g0 sh_42 (by decide) (by decide) ty_42_0 rfl rfl (by omega) (by omega) ⟨by omega, by omega⟩ rfl (fun H130282 e130283 w130284 => ?_))
  have f130285 := f0.put' e130283 g0 rfl
  have k130286 : H130282 r0 0 = 0 := wq_u_s e130283
  refine wp_of e219 c219_5 (rw_aload_n (pc' := 6) (v := .ref r0) rfl rfl rfl ?_)
  refine wp_of e219 c219_6 (xg_O (pc' := 9) lf_9_337 w130284 g0 sh_42 (by decide) (by decide) ty_42_3 rfl rfl (fun q130288 => ?_) (fun r130287 q130288 g130289 => ?_))
  · refine wp_of e219 c219_9 (rw_ifnonnull_n (p1 := 21) (p2 := 12) (by decide) rfl ?_)
    refine wp_of e219 c219_12 (rw_aload_n (pc' := 13) (v := .ref r0) rfl rfl rfl ?_)
    refine wp_of e219 c219_13 (rw_iconst (pc' := 14) rfl ?_)
    refine wp_of e219 c219_14 (xc_V (pc' := 17) (r := r0) (as := [vI 1]) (st := []) (lm_9_54) rfl rfl (Nat.le_of_ble_eq_true rfl) w130284 g0 sh_42 (by decide) rfl (by decide) (s_170 w130284 g0 ⟨by omega, by omega⟩) (fun R130290 T130291 H130292 p130293 => ?_))
    obtain ⟨e130294, w130296, f130297, z130299, e130295, b130300, p130298⟩ := p130293
    subst e130294
    subst e130295
    have f130301 := f130285.tr f130297 rfl
    show wp _ _ 219 17 [(0, .ref r0)] [vI z130299] _ H130292 _
    refine wp_of e219 c219_17 (rw_i2l (pc' := 18) rfl ⟨by omega, by omega⟩ ?_)
    refine wp_of e219 c219_18 (rw_goto (p1 := 29) (by decide) ?_)
    have k130302 : wKI H130292 r0 = wKI H r0 := ((wKI_fr w130284 g0 f130297 rfl).trans (wKI_fr hW g0 ((wfr.rf (l := [(42, 0)])).put' e130283 g0 rfl) rfl))
    exact wp_lreturn e219 c219_29 rfl ⟨rfl, w130296, f130301, z130299, rfl, ⟨by omega, by omega⟩, by omega, by omega⟩
  · refine wp_of e219 c219_9 (rw_ifnonnull_r (p1 := 21) (p2 := 12) (by decide) rfl ?_)
    refine wp_of e219 c219_21 (rw_aload_n (pc' := 22) (v := .ref r0) rfl rfl rfl ?_)
    refine wp_of e219 c219_22 (rw_aload_n (pc' := 23) (v := .ref r0) rfl rfl rfl ?_)
    refine wp_of e219 c219_23 (xc_V (pc' := 26) (r := r0) (as := []) (st := [.ref r0]) (lm_9_376) rfl rfl (Nat.le_of_ble_eq_true rfl) w130284 g0 sh_42 (by decide) rfl (by decide) (s_220 w130284 g0 q130288 g130289) (fun R130303 T130304 H130305 p130306 => ?_))
    obtain ⟨e130307, e130309, z130311, e130308, b130312, p130310⟩ := p130306
    subst e130307
    subst e130308
    subst e130309
    show wp _ _ 219 26 [(0, .ref r0)] [vL z130311, .ref r0] _ H130282 _
    refine wp_of e219 c219_26 (xc_V (pc' := 29) (r := r0) (as := [vL z130311]) (st := []) (lm_9_380) rfl rfl (Nat.le_of_ble_eq_true rfl) w130284 g0 sh_42 (by decide) rfl (by decide) (s_221 w130284 g0 ⟨by omega, by omega⟩) (fun R130313 T130314 H130315 p130316 => ?_))
    obtain ⟨e130317, w130319, f130320, z130322, e130318, b130323, p130321⟩ := p130316
    subst e130317
    subst e130318
    have f130324 := f130285.tr f130320 rfl
    show wp _ _ 219 29 [(0, .ref r0)] [vL z130322] _ H130315 _
    have k130325 : wKI H130315 r0 = wKI H r0 := ((wKI_fr w130284 g0 f130320 rfl).trans (wKI_fr hW g0 ((wfr.rf (l := [(42, 0)])).put' e130283 g0 rfl) rfl))
    exact wp_lreturn e219 c219_29 rfl ⟨rfl, w130319, f130324, z130322, rfl, ⟨by omega, by omega⟩, by omega, by omega⟩
/-! StrikeAwakeModel.denied(I)Z -/
theorem e223 : wq_en 223 = some (9, 2, false, some FieldType.boolean) := rfl
theorem c223_0 : mc_cd 223 0 = some (.aload_n 0, 1) := by decide +kernel
theorem c223_1 : mc_cd 223 1 = some (.iload_n 1, 1) := by decide +kernel
theorem c223_2 : mc_cd 223 2 = some (.invokevirtual 54, 3) := by decide +kernel
theorem c223_5 : mc_cd 223 5 = some (.pop, 1) := by decide +kernel
theorem c223_6 : mc_cd 223 6 = some (.iconst 0, 1) := by decide +kernel
theorem c223_7 : mc_cd 223 7 = some (.ireturn, 1) := by decide +kernel
abbrev q_223 (r0 : Nat) (a1 : Int) (T : wq_T) (H : wq_H) : Option Value → wq_T → wq_H → Prop := fun r T' H' => T = T' ∧ WT T H' ∧ wfr [(42, 1), (42, 2)] T H H' ∧ ∃ z : Int, some (vI z) = r ∧ (0 ≤ z ∧ z ≤ 1) ∧ (H' r0 2 = -1)
set_option maxHeartbeats 4000000 in
theorem s_223 {kt : Nat → Option mc_E} {T : wq_T} {H : wq_H} {r0 : Nat} {a1 : Int} (hW : WT T H) (g0 : T.2.2.2 r0 = some 42) (i1 : (-2147483648) ≤ a1 ∧ a1 ≤ 2147483647) : wpc kt 2 223 [.ref r0, vI a1] T H (q_223 r0 a1 T H) := by
  refine wp_enter e223 (Nat.le_of_ble_eq_true rfl) rfl ?_
  have f0 : wfr [(42, 1), (42, 2)] T H H := wfr.rf
  show wp _ _ 223 0 [(0, .ref r0), (1, vI a1)] [] _ H _
  refine wp_of e223 c223_0 (rw_aload_n (pc' := 1) (v := .ref r0) rfl rfl rfl ?_)
  refine wp_of e223 c223_1 (rw_iload_n (pc' := 2) (z := a1) rfl rfl ?_)
  refine wp_of e223 c223_2 (xc_V (pc' := 5) (r := r0) (as := [vI a1]) (st := []) (lm_9_54) rfl rfl (Nat.le_of_ble_eq_true rfl) hW g0 sh_42 (by decide) rfl (by decide) (s_170 hW g0 ⟨by omega, by omega⟩) (fun R130338 T130339 H130340 p130341 => ?_))
  obtain ⟨e130342, w130344, f130345, z130347, e130343, b130348, p130346⟩ := p130341
  subst e130342
  subst e130343
  have f130349 := f0.tr f130345 rfl
  show wp _ _ 223 5 [(0, .ref r0), (1, vI a1)] [vI z130347] _ H130340 _
  refine wp_of e223 c223_5 (rw_pop (pc' := 6) rfl rfl ?_)
  refine wp_of e223 c223_6 (rw_iconst (pc' := 7) rfl ?_)
  exact wp_zreturn e223 c223_7 rfl (by omega) ⟨rfl, w130344, f130349, 0, rfl, ⟨by omega, by omega⟩, by omega⟩
/-! StrikeAwakeModel.granted()Z -/
theorem e224 : wq_en 224 = some (9, 1, false, some FieldType.boolean) := rfl
theorem c224_0 : mc_cd 224 0 = some (.aload_n 0, 1) := by decide +kernel
theorem c224_1 : mc_cd 224 1 = some (.iconst 0, 1) := by decide +kernel
theorem c224_2 : mc_cd 224 2 = some (.invokevirtual 58, 3) := by decide +kernel
theorem c224_5 : mc_cd 224 5 = some (.pop, 1) := by decide +kernel
theorem c224_6 : mc_cd 224 6 = some (.iconst 1, 1) := by decide +kernel
theorem c224_7 : mc_cd 224 7 = some (.ireturn, 1) := by decide +kernel
abbrev q_224 (r0 : Nat) (T : wq_T) (H : wq_H) : Option Value → wq_T → wq_H → Prop := fun r T' H' => T = T' ∧ WT T H' ∧ wfr [(42, 1), (42, 2)] T H H' ∧ ∃ z : Int, some (vI z) = r ∧ (0 ≤ z ∧ z ≤ 1) ∧ (H' r0 2 = -1)
set_option maxHeartbeats 4000000 in
theorem s_224 {kt : Nat → Option mc_E} {T : wq_T} {H : wq_H} {r0 : Nat} (hW : WT T H) (g0 : T.2.2.2 r0 = some 42) : wpc kt 2 224 [.ref r0] T H (q_224 r0 T H) := by
  refine wp_enter e224 (Nat.le_of_ble_eq_true rfl) rfl ?_
  have f0 : wfr [(42, 1), (42, 2)] T H H := wfr.rf
  show wp _ _ 224 0 [(0, .ref r0)] [] _ H _
  refine wp_of e224 c224_0 (rw_aload_n (pc' := 1) (v := .ref r0) rfl rfl rfl ?_)
  refine wp_of e224 c224_1 (rw_iconst (pc' := 2) rfl ?_)
  refine wp_of e224 c224_2 (xc_V (pc' := 5) (r := r0) (as := [vI 0]) (st := []) (lm_9_58) rfl rfl (Nat.le_of_ble_eq_true rfl) hW g0 sh_42 (by decide) rfl (by decide) (s_209 hW g0 ⟨by omega, by omega⟩) (fun R130362 T130363 H130364 p130365 => ?_))
  obtain ⟨e130366, w130368, f130369, z130371, e130367, b130372, p130370⟩ := p130365
  subst e130366
  subst e130367
  have f130373 := f0.tr f130369 rfl
  show wp _ _ 224 5 [(0, .ref r0)] [vI z130371] _ H130364 _
  refine wp_of e224 c224_5 (rw_pop (pc' := 6) rfl rfl ?_)
  refine wp_of e224 c224_6 (rw_iconst (pc' := 7) rfl ?_)
  exact wp_zreturn e224 c224_7 rfl (by omega) ⟨rfl, w130368, f130373, 1, rfl, ⟨by omega, by omega⟩, by omega⟩
/-! StrikeAwakeModel.say(II)Z -/
theorem e222 : wq_en 222 = some (9, 3, false, some FieldType.boolean) := rfl
theorem c222_0 : mc_cd 222 0 = some (.aload_n 0, 1) := by decide +kernel
theorem c222_1 : mc_cd 222 1 = some (.iconst 0, 1) := by decide +kernel
theorem c222_2 : mc_cd 222 2 = some (.putfield 48, 3) := by decide +kernel
theorem c222_5 : mc_cd 222 5 = some (.aload_n 0, 1) := by decide +kernel
theorem c222_6 : mc_cd 222 6 = some (.iload_n 1, 1) := by decide +kernel
theorem c222_7 : mc_cd 222 7 = some (.iload_n 2, 1) := by decide +kernel
theorem c222_8 : mc_cd 222 8 = some (.invokevirtual 367, 3) := by decide +kernel
theorem c222_11 : mc_cd 222 11 = some (.ifCond .ne 9, 3) := by decide +kernel
theorem c222_14 : mc_cd 222 14 = some (.aload_n 0, 1) := by decide +kernel
theorem c222_15 : mc_cd 222 15 = some (.iconst 1, 1) := by decide +kernel
theorem c222_16 : mc_cd 222 16 = some (.invokevirtual 400, 3) := by decide +kernel
theorem c222_19 : mc_cd 222 19 = some (.ireturn, 1) := by decide +kernel
theorem c222_20 : mc_cd 222 20 = some (.aload_n 0, 1) := by decide +kernel
theorem c222_21 : mc_cd 222 21 = some (.getfield 36, 3) := by decide +kernel
theorem c222_24 : mc_cd 222 24 = some (.iload_n 1, 1) := by decide +kernel
theorem c222_25 : mc_cd 222 25 = some (.iload_n 2, 1) := by decide +kernel
theorem c222_26 : mc_cd 222 26 = some (.iastore, 1) := by decide +kernel
theorem c222_27 : mc_cd 222 27 = some (.aload_n 0, 1) := by decide +kernel
theorem c222_28 : mc_cd 222 28 = some (.invokevirtual 403, 3) := by decide +kernel
theorem c222_31 : mc_cd 222 31 = some (.ireturn, 1) := by decide +kernel
abbrev q_222 (r0 : Nat) (a1 : Int) (a2 : Int) (T : wq_T) (H : wq_H) : Option Value → wq_T → wq_H → Prop := fun r T' H' => T = T' ∧ WT T H' ∧ wfr [(42, 0), (42, 1), (42, 2), (50, 999)] T H H' ∧ ∃ z : Int, some (vI z) = r ∧ (0 ≤ z ∧ z ≤ 1) ∧ (wKI H' r0 = 1) ∧ (H' r0 2 = -1)
set_option maxHeartbeats 4000000 in
theorem s_222 {kt : Nat → Option mc_E} {T : wq_T} {H : wq_H} {r0 : Nat} {a1 : Int} {a2 : Int} (hW : WT T H) (g0 : T.2.2.2 r0 = some 42) (i1 : (-2147483648) ≤ a1 ∧ a1 ≤ 2147483647) (i2 : (-2147483648) ≤ a2 ∧ a2 ≤ 2147483647) (p0 : wKI H r0 = 1) : wpc kt 3 222 [.ref r0, vI a1, vI a2] T H (q_222 r0 a1 a2 T H) := by
  refine wp_enter e222 (Nat.le_of_ble_eq_true rfl) rfl ?_
  have f0 : wfr [(42, 0), (42, 1), (42, 2), (50, 999)] T H H := wfr.rf
  show wp _ _ 222 0 [(0, .ref r0), (1, vI a1), (2, vI a2)] [] _ H _
  refine wp_of e222 c222_0 (rw_aload_n (pc' := 1) (v := .ref r0) rfl rfl rfl ?_)
  refine wp_of e222 c222_1 (rw_iconst (pc' := 2) rfl ?_)
  refine wp_of e222 c222_2 (xp_I (pc' := 5) lf_9_48 hW g0 sh_42 (by decide) (by decide) ty_42_0 rfl rfl (by omega) (by omega) ⟨by omega, by omega⟩ rfl (fun H130423 e130424 w130425 => ?_))
  have f130426 := f0.put' e130424 g0 rfl
  have k130427 : H130423 r0 0 = 0 := wq_u_s e130424
  refine wp_of e222 c222_5 (rw_aload_n (pc' := 6) (v := .ref r0) rfl rfl rfl ?_)
  refine wp_of e222 c222_6 (rw_iload_n (pc' := 7) (z := a1) rfl rfl ?_)
  refine wp_of e222 c222_7 (rw_iload_n (pc' := 8) (z := a2) rfl rfl ?_)
  refine wp_of e222 c222_8 (xc_V (pc' := 11) (r := r0) (as := [vI a1, vI a2]) (st := []) (lm_9_367) rfl rfl (Nat.le_of_ble_eq_true rfl) w130425 g0 sh_42 (by decide) rfl (by decide) (s_215 w130425 g0 ⟨by omega, by omega⟩ ⟨by omega, by omega⟩) (fun R130428 T130429 H130430 p130431 => ?_))
  obtain ⟨e130432, e130434, z130436, e130433, b130437, p130435⟩ := p130431
  subst e130432
  subst e130433
  subst e130434
  show wp _ _ 222 11 [(0, .ref r0), (1, vI a1), (2, vI a2)] [vI z130436] _ H130423 _
  refine wp_of e222 c222_11 (rw_if_ne (p1 := 20) (p2 := 14) (by decide) rfl ⟨by omega, by omega⟩ (fun c130438 => ?_) (fun c130438 => ?_))
  · refine wp_of e222 c222_20 (rw_aload_n (pc' := 21) (v := .ref r0) rfl rfl rfl ?_)
    refine wp_of e222 c222_21 (xg_R (pc' := 24) lf_9_36 w130425 g0 sh_42 (by decide) (by decide) ty_42_26 rfl rfl (fun r130439 q130440 g130441 => ?_))
    refine wp_of e222 c222_24 (rw_iload_n (pc' := 25) (z := a1) rfl rfl ?_)
    refine wp_of e222 c222_25 (rw_iload_n (pc' := 26) (z := a2) rfl rfl ?_)
    refine wp_of e222 c222_26 (xs_I (pc' := 27) w130425 g130441 (by decide) sh_50 (by decide) (ty_50 _) (by omega) (by omega) ⟨by omega, by omega⟩ (by omega) (by omega) rfl (fun H130442 e130443 w130444 => ?_))
    have f130445 := f130426.put' e130443 g130441 rfl
    refine wp_of e222 c222_27 (rw_aload_n (pc' := 28) (v := .ref r0) rfl rfl rfl ?_)
    refine wp_of e222 c222_28 (xc_V (pc' := 31) (r := r0) (as := []) (st := []) (lm_9_403) rfl rfl (Nat.le_of_ble_eq_true rfl) w130444 g0 sh_42 (by decide) rfl (by decide) (s_224 w130444 g0) (fun R130446 T130447 H130448 p130449 => ?_))
    obtain ⟨e130450, w130452, f130453, z130455, e130451, b130456, p130454⟩ := p130449
    subst e130450
    subst e130451
    have f130457 := f130445.tr f130453 rfl
    show wp _ _ 222 31 [(0, .ref r0), (1, vI a1), (2, vI a2)] [vI z130455] _ H130448 _
    have k130458 : wKI H130448 r0 = wKI H r0 := ((wKI_fr w130444 g0 f130453 rfl).trans ((wKI_fr w130425 g0 ((wfr.rf (l := [(50, 999)])).put' e130443 g130441 rfl) rfl).trans (wKI_fr hW g0 ((wfr.rf (l := [(42, 0)])).put' e130424 g0 rfl) rfl)))
    exact wp_zreturn e222 c222_31 rfl (by omega) ⟨rfl, w130452, f130457, z130455, rfl, ⟨by omega, by omega⟩, by omega, by omega⟩
  · refine wp_of e222 c222_14 (rw_aload_n (pc' := 15) (v := .ref r0) rfl rfl rfl ?_)
    refine wp_of e222 c222_15 (rw_iconst (pc' := 16) rfl ?_)
    refine wp_of e222 c222_16 (xc_V (pc' := 19) (r := r0) (as := [vI 1]) (st := []) (lm_9_400) rfl rfl (Nat.le_of_ble_eq_true rfl) w130425 g0 sh_42 (by decide) rfl (by decide) (s_223 w130425 g0 ⟨by omega, by omega⟩) (fun R130459 T130460 H130461 p130462 => ?_))
    obtain ⟨e130463, w130465, f130466, z130468, e130464, b130469, p130467⟩ := p130462
    subst e130463
    subst e130464
    have f130470 := f130426.tr f130466 rfl
    show wp _ _ 222 19 [(0, .ref r0), (1, vI a1), (2, vI a2)] [vI z130468] _ H130461 _
    have k130471 : wKI H130461 r0 = wKI H r0 := ((wKI_fr w130425 g0 f130466 rfl).trans (wKI_fr hW g0 ((wfr.rf (l := [(42, 0)])).put' e130424 g0 rfl) rfl))
    exact wp_zreturn e222 c222_19 rfl (by omega) ⟨rfl, w130465, f130470, z130468, rfl, ⟨by omega, by omega⟩, by omega, by omega⟩
/-! StrikeAwakeModel.said(I)I -/
theorem e225 : wq_en 225 = some (9, 2, false, some FieldType.int) := rfl
theorem c225_0 : mc_cd 225 0 = some (.aload_n 0, 1) := by decide +kernel
theorem c225_1 : mc_cd 225 1 = some (.iconst 0, 1) := by decide +kernel
theorem c225_2 : mc_cd 225 2 = some (.putfield 48, 3) := by decide +kernel
theorem c225_5 : mc_cd 225 5 = some (.aload_n 0, 1) := by decide +kernel
theorem c225_6 : mc_cd 225 6 = some (.iload_n 1, 1) := by decide +kernel
theorem c225_7 : mc_cd 225 7 = some (.invokevirtual 364, 3) := by decide +kernel
theorem c225_10 : mc_cd 225 10 = some (.ifCond .eq 25, 3) := by decide +kernel
theorem c225_13 : mc_cd 225 13 = some (.aload_n 0, 1) := by decide +kernel
theorem c225_14 : mc_cd 225 14 = some (.getfield 21, 3) := by decide +kernel
theorem c225_17 : mc_cd 225 17 = some (.iload_n 1, 1) := by decide +kernel
theorem c225_18 : mc_cd 225 18 = some (.iaload, 1) := by decide +kernel
theorem c225_19 : mc_cd 225 19 = some (.ifCond .le 16, 3) := by decide +kernel
theorem c225_22 : mc_cd 225 22 = some (.aload_n 0, 1) := by decide +kernel
theorem c225_23 : mc_cd 225 23 = some (.aload_n 0, 1) := by decide +kernel
theorem c225_24 : mc_cd 225 24 = some (.getfield 36, 3) := by decide +kernel
theorem c225_27 : mc_cd 225 27 = some (.iload_n 1, 1) := by decide +kernel
theorem c225_28 : mc_cd 225 28 = some (.iaload, 1) := by decide +kernel
theorem c225_29 : mc_cd 225 29 = some (.invokevirtual 58, 3) := by decide +kernel
theorem c225_32 : mc_cd 225 32 = some (.goto 8, 3) := by decide +kernel
theorem c225_35 : mc_cd 225 35 = some (.aload_n 0, 1) := by decide +kernel
theorem c225_36 : mc_cd 225 36 = some (.iconst 1, 1) := by decide +kernel
theorem c225_37 : mc_cd 225 37 = some (.invokevirtual 54, 3) := by decide +kernel
theorem c225_40 : mc_cd 225 40 = some (.ireturn, 1) := by decide +kernel
abbrev q_225 (r0 : Nat) (a1 : Int) (T : wq_T) (H : wq_H) : Option Value → wq_T → wq_H → Prop := fun r T' H' => T = T' ∧ WT T H' ∧ wfr [(42, 0), (42, 1), (42, 2)] T H H' ∧ ∃ z : Int, some (vI z) = r ∧ ((-2147483648) ≤ z ∧ z ≤ 2147483647) ∧ (wKI H' r0 = 1) ∧ (H' r0 2 = -1)
set_option maxHeartbeats 4000000 in
theorem s_225 {kt : Nat → Option mc_E} {T : wq_T} {H : wq_H} {r0 : Nat} {a1 : Int} (hW : WT T H) (g0 : T.2.2.2 r0 = some 42) (i1 : (-2147483648) ≤ a1 ∧ a1 ≤ 2147483647) (p0 : wKI H r0 = 1) : wpc kt 2 225 [.ref r0, vI a1] T H (q_225 r0 a1 T H) := by
  refine wp_enter e225 (Nat.le_of_ble_eq_true rfl) rfl ?_
  have f0 : wfr [(42, 0), (42, 1), (42, 2)] T H H := wfr.rf
  show wp _ _ 225 0 [(0, .ref r0), (1, vI a1)] [] _ H _
  refine wp_of e225 c225_0 (rw_aload_n (pc' := 1) (v := .ref r0) rfl rfl rfl ?_)
  refine wp_of e225 c225_1 (rw_iconst (pc' := 2) rfl ?_)
  refine wp_of e225 c225_2 (xp_I (pc' := 5) lf_9_48 hW g0 sh_42 (by decide) (by decide) ty_42_0 rfl rfl (by omega) (by omega) ⟨by omega, by omega⟩ rfl (fun H130538 e130539 w130540 => ?_))
  have f130541 := f0.put' e130539 g0 rfl
  have k130542 : H130538 r0 0 = 0 := wq_u_s e130539
  refine wp_of e225 c225_5 (rw_aload_n (pc' := 6) (v := .ref r0) rfl rfl rfl ?_)
  refine wp_of e225 c225_6 (rw_iload_n (pc' := 7) (z := a1) rfl rfl ?_)
  refine wp_of e225 c225_7 (xc_V (pc' := 10) (r := r0) (as := [vI a1]) (st := []) (lm_9_364) rfl rfl (Nat.le_of_ble_eq_true rfl) w130540 g0 sh_42 (by decide) rfl (by decide) (s_213 w130540 g0 ⟨by omega, by omega⟩) (fun R130543 T130544 H130545 p130546 => ?_))
  obtain ⟨e130547, e130549, z130551, e130548, b130552, p130550⟩ := p130546
  subst e130547
  subst e130548
  subst e130549
  show wp _ _ 225 10 [(0, .ref r0), (1, vI a1)] [vI z130551] _ H130538 _
  refine wp_of e225 c225_10 (rw_if_eq (p1 := 35) (p2 := 13) (by decide) rfl ⟨by omega, by omega⟩ (fun c130553 => ?_) (fun c130553 => ?_))
  · refine wp_of e225 c225_35 (rw_aload_n (pc' := 36) (v := .ref r0) rfl rfl rfl ?_)
    refine wp_of e225 c225_36 (rw_iconst (pc' := 37) rfl ?_)
    refine wp_of e225 c225_37 (xc_V (pc' := 40) (r := r0) (as := [vI 1]) (st := []) (lm_9_54) rfl rfl (Nat.le_of_ble_eq_true rfl) w130540 g0 sh_42 (by decide) rfl (by decide) (s_170 w130540 g0 ⟨by omega, by omega⟩) (fun R130554 T130555 H130556 p130557 => ?_))
    obtain ⟨e130558, w130560, f130561, z130563, e130559, b130564, p130562⟩ := p130557
    subst e130558
    subst e130559
    have f130565 := f130541.tr f130561 rfl
    show wp _ _ 225 40 [(0, .ref r0), (1, vI a1)] [vI z130563] _ H130556 _
    have k130566 : wKI H130556 r0 = wKI H r0 := ((wKI_fr w130540 g0 f130561 rfl).trans (wKI_fr hW g0 ((wfr.rf (l := [(42, 0)])).put' e130539 g0 rfl) rfl))
    exact wp_ireturn e225 c225_40 rfl ⟨rfl, w130560, f130565, z130563, rfl, ⟨by omega, by omega⟩, by omega, by omega⟩
  · refine wp_of e225 c225_13 (rw_aload_n (pc' := 14) (v := .ref r0) rfl rfl rfl ?_)
    refine wp_of e225 c225_14 (xg_R (pc' := 17) lf_9_21 w130540 g0 sh_42 (by decide) (by decide) ty_42_21 rfl rfl (fun r130567 q130568 g130569 => ?_))
    refine wp_of e225 c225_17 (rw_iload_n (pc' := 18) (z := a1) rfl rfl ?_)
    refine wp_of e225 c225_18 (xa_I (so := 0) (pc' := 19) w130540 g130569 sh_45 (by decide) (ty_45 _) (by omega) (by omega) rfl (fun b130570 b130571 => ?_))
    refine wp_of e225 c225_19 (rw_if_le (p1 := 35) (p2 := 22) (by decide) rfl ⟨by omega, by omega⟩ (fun c130572 => ?_) (fun c130572 => ?_))
    · refine wp_of e225 c225_35 (rw_aload_n (pc' := 36) (v := .ref r0) rfl rfl rfl ?_)
      refine wp_of e225 c225_36 (rw_iconst (pc' := 37) rfl ?_)
      refine wp_of e225 c225_37 (xc_V (pc' := 40) (r := r0) (as := [vI 1]) (st := []) (lm_9_54) rfl rfl (Nat.le_of_ble_eq_true rfl) w130540 g0 sh_42 (by decide) rfl (by decide) (s_170 w130540 g0 ⟨by omega, by omega⟩) (fun R130573 T130574 H130575 p130576 => ?_))
      obtain ⟨e130577, w130579, f130580, z130582, e130578, b130583, p130581⟩ := p130576
      subst e130577
      subst e130578
      have f130584 := f130541.tr f130580 rfl
      show wp _ _ 225 40 [(0, .ref r0), (1, vI a1)] [vI z130582] _ H130575 _
      have k130585 : wKI H130575 r0 = wKI H r0 := ((wKI_fr w130540 g0 f130580 rfl).trans (wKI_fr hW g0 ((wfr.rf (l := [(42, 0)])).put' e130539 g0 rfl) rfl))
      exact wp_ireturn e225 c225_40 rfl ⟨rfl, w130579, f130584, z130582, rfl, ⟨by omega, by omega⟩, by omega, by omega⟩
    · refine wp_of e225 c225_22 (rw_aload_n (pc' := 23) (v := .ref r0) rfl rfl rfl ?_)
      refine wp_of e225 c225_23 (rw_aload_n (pc' := 24) (v := .ref r0) rfl rfl rfl ?_)
      refine wp_of e225 c225_24 (xg_R (pc' := 27) lf_9_36 w130540 g0 sh_42 (by decide) (by decide) ty_42_26 rfl rfl (fun r130586 q130587 g130588 => ?_))
      refine wp_of e225 c225_27 (rw_iload_n (pc' := 28) (z := a1) rfl rfl ?_)
      refine wp_of e225 c225_28 (xa_I (so := 0) (pc' := 29) w130540 g130588 sh_50 (by decide) (ty_50 _) (by omega) (by omega) rfl (fun b130589 b130590 => ?_))
      refine wp_of e225 c225_29 (xc_V (pc' := 32) (r := r0) (as := [vI (H130538 r130586 (a1.toNat))]) (st := []) (lm_9_58) rfl rfl (Nat.le_of_ble_eq_true rfl) w130540 g0 sh_42 (by decide) rfl (by decide) (s_209 w130540 g0 ⟨by omega, by omega⟩) (fun R130591 T130592 H130593 p130594 => ?_))
      obtain ⟨e130595, w130597, f130598, z130600, e130596, b130601, p130599⟩ := p130594
      subst e130595
      subst e130596
      have f130602 := f130541.tr f130598 rfl
      show wp _ _ 225 32 [(0, .ref r0), (1, vI a1)] [vI z130600] _ H130593 _
      refine wp_of e225 c225_32 (rw_goto (p1 := 40) (by decide) ?_)
      have k130603 : wKI H130593 r0 = wKI H r0 := ((wKI_fr w130540 g0 f130598 rfl).trans (wKI_fr hW g0 ((wfr.rf (l := [(42, 0)])).put' e130539 g0 rfl) rfl))
      exact wp_ireturn e225 c225_40 rfl ⟨rfl, w130597, f130602, z130600, rfl, ⟨by omega, by omega⟩, by omega, by omega⟩
/-! StrikeAwakeModel.isEmpty()Z -/
theorem e227 : wq_en 227 = some (9, 1, false, some FieldType.boolean) := rfl
theorem c227_0 : mc_cd 227 0 = some (.aload_n 0, 1) := by decide +kernel
theorem c227_1 : mc_cd 227 1 = some (.invokevirtual 376, 3) := by decide +kernel
theorem c227_4 : mc_cd 227 4 = some (.lconst 0, 1) := by decide +kernel
theorem c227_5 : mc_cd 227 5 = some (.lcmp, 1) := by decide +kernel
theorem c227_6 : mc_cd 227 6 = some (.ifCond .ne 7, 3) := by decide +kernel
theorem c227_9 : mc_cd 227 9 = some (.iconst 1, 1) := by decide +kernel
theorem c227_10 : mc_cd 227 10 = some (.goto 4, 3) := by decide +kernel
theorem c227_13 : mc_cd 227 13 = some (.iconst 0, 1) := by decide +kernel
theorem c227_14 : mc_cd 227 14 = some (.ireturn, 1) := by decide +kernel
abbrev q_227 (r0 : Nat) (pp : Nat) (T : wq_T) (H : wq_H) : Option Value → wq_T → wq_H → Prop := fun r T' H' => T = T' ∧ H = H' ∧ ∃ z : Int, some (vI z) = r ∧ (0 ≤ z ∧ z ≤ 1)
set_option maxHeartbeats 4000000 in
theorem s_227 {kt : Nat → Option mc_E} {T : wq_T} {H : wq_H} {r0 : Nat} {pp : Nat} (hW : WT T H) (g0 : T.2.2.2 r0 = some 42) (qpp : H r0 3 = (pp : Int)) (gpp : T.2.2.2 pp = some 54) : wpc kt 2 227 [.ref r0] T H (q_227 r0 pp T H) := by
  refine wp_enter e227 (Nat.le_of_ble_eq_true rfl) rfl ?_
  show wp _ _ 227 0 [(0, .ref r0)] [] _ H _
  refine wp_of e227 c227_0 (rw_aload_n (pc' := 1) (v := .ref r0) rfl rfl rfl ?_)
  refine wp_of e227 c227_1 (xc_V (pc' := 4) (r := r0) (as := []) (st := []) (lm_9_376) rfl rfl (Nat.le_of_ble_eq_true rfl) hW g0 sh_42 (by decide) rfl (by decide) (s_220 hW g0 qpp gpp) (fun R130616 T130617 H130618 p130619 => ?_))
  obtain ⟨e130620, e130622, z130624, e130621, b130625, p130623⟩ := p130619
  subst e130620
  subst e130621
  subst e130622
  show wp _ _ 227 4 [(0, .ref r0)] [vL z130624] _ H _
  refine wp_of e227 c227_4 (rw_lconst (pc' := 5) (z := 0) rfl rfl ?_)
  refine wp_of e227 c227_5 (rw_lcmp (pc' := 6) rfl ⟨by omega, by omega⟩ ⟨by omega, by omega⟩ ?_)
  have b130626 := wq_cmp_b z130624 0
  refine wp_of e227 c227_6 (rw_if_ne (p1 := 13) (p2 := 9) (by decide) rfl ⟨by omega, by omega⟩ (fun c130627 => ?_) (fun c130627 => ?_))
  · refine wp_of e227 c227_13 (rw_iconst (pc' := 14) rfl ?_)
    exact wp_zreturn e227 c227_14 rfl (by omega) ⟨rfl, rfl, 0, rfl, ⟨by omega, by omega⟩⟩
  · refine wp_of e227 c227_9 (rw_iconst (pc' := 10) rfl ?_)
    refine wp_of e227 c227_10 (rw_goto (p1 := 14) (by decide) ?_)
    exact wp_zreturn e227 c227_14 rfl (by omega) ⟨rfl, rfl, 1, rfl, ⟨by omega, by omega⟩⟩
/-! StrikeAwakeModel.born(I)I -/
theorem e229 : wq_en 229 = some (9, 4, false, some FieldType.int) := rfl
theorem c229_0 : mc_cd 229 0 = some (.iconst 0, 1) := by decide +kernel
theorem c229_1 : mc_cd 229 1 = some (.istore_n 2, 1) := by decide +kernel
theorem c229_2 : mc_cd 229 2 = some (.iconst 0, 1) := by decide +kernel
theorem c229_3 : mc_cd 229 3 = some (.istore_n 3, 1) := by decide +kernel
theorem c229_4 : mc_cd 229 4 = some (.iload_n 3, 1) := by decide +kernel
theorem c229_5 : mc_cd 229 5 = some (.aload_n 0, 1) := by decide +kernel
theorem c229_6 : mc_cd 229 6 = some (.getfield 337, 3) := by decide +kernel
theorem c229_9 : mc_cd 229 9 = some (.getfield 288, 3) := by decide +kernel
theorem c229_12 : mc_cd 229 12 = some (.if_icmp .ge 30, 3) := by decide +kernel
theorem c229_15 : mc_cd 229 15 = some (.iload_n 2, 1) := by decide +kernel
theorem c229_16 : mc_cd 229 16 = some (.aload_n 0, 1) := by decide +kernel
theorem c229_17 : mc_cd 229 17 = some (.getfield 337, 3) := by decide +kernel
theorem c229_20 : mc_cd 229 20 = some (.getfield 291, 3) := by decide +kernel
theorem c229_23 : mc_cd 229 23 = some (.iload_n 3, 1) := by decide +kernel
theorem c229_24 : mc_cd 229 24 = some (.iaload, 1) := by decide +kernel
theorem c229_25 : mc_cd 229 25 = some (.iload_n 1, 1) := by decide +kernel
theorem c229_26 : mc_cd 229 26 = some (.if_icmp .gt 7, 3) := by decide +kernel
theorem c229_29 : mc_cd 229 29 = some (.iconst 1, 1) := by decide +kernel
theorem c229_30 : mc_cd 229 30 = some (.goto 4, 3) := by decide +kernel
theorem c229_33 : mc_cd 229 33 = some (.iconst 0, 1) := by decide +kernel
theorem c229_34 : mc_cd 229 34 = some (.iadd, 1) := by decide +kernel
theorem c229_35 : mc_cd 229 35 = some (.istore_n 2, 1) := by decide +kernel
theorem c229_36 : mc_cd 229 36 = some (.iinc 3 1, 3) := by decide +kernel
theorem c229_39 : mc_cd 229 39 = some (.goto (-35), 3) := by decide +kernel
theorem c229_42 : mc_cd 229 42 = some (.iload_n 2, 1) := by decide +kernel
theorem c229_43 : mc_cd 229 43 = some (.ireturn, 1) := by decide +kernel
abbrev q_229 (r0 : Nat) (a1 : Int) (pp : Nat) (T : wq_T) (H : wq_H) : Option Value → wq_T → wq_H → Prop := fun r T' H' => T = T' ∧ H = H' ∧ ∃ z : Int, some (vI z) = r ∧ ((-2147483648) ≤ z ∧ z ≤ 2147483647)
set_option maxHeartbeats 4000000 in
theorem s_229 {kt : Nat → Option mc_E} {T : wq_T} {H : wq_H} {r0 : Nat} {a1 : Int} {pp : Nat} (hW : WT T H) (g0 : T.2.2.2 r0 = some 42) (i1 : (-2147483648) ≤ a1 ∧ a1 ≤ 2147483647) (qpp : H r0 3 = (pp : Int)) (gpp : T.2.2.2 pp = some 54) : wpc kt 1 229 [.ref r0, vI a1] T H (q_229 r0 a1 pp T H) := by
  refine wp_enter e229 (Nat.le_of_ble_eq_true rfl) rfl ?_
  show wp _ _ 229 0 [(0, .ref r0), (1, vI a1)] [] _ H _
  refine wp_of e229 c229_0 (rw_iconst (pc' := 1) rfl ?_)
  refine wp_of e229 c229_1 (rw_istore_n (pc' := 2) (z := 0) (L' := [(2, vI 0), (0, .ref r0), (1, vI a1)]) rfl rfl rfl ?_)
  refine wp_of e229 c229_2 (rw_iconst (pc' := 3) rfl ?_)
  refine wp_of e229 c229_3 (rw_istore_n (pc' := 4) (z := 0) (L' := [(3, vI 0), (2, vI 0), (0, .ref r0), (1, vI a1)]) rfl rfl rfl ?_)
  have lp130846 : ∀ (n130847 : Nat) (v130849 : Int) (v130850 : Int), (0 ≤ v130849 ∧ v130849 ≤ 3) → ((-2147483648) ≤ v130850 ∧ v130850 ≤ 2147483647) → (3 - v130849).toNat = n130847 → wp kt 0 229 4 [(3, vI v130849), (2, vI v130850), (0, .ref r0), (1, vI a1)] [] T H (q_229 r0 a1 pp T H) := by
    intro n130847
    induction n130847 using Nat.strongRecOn with
    | _ n130847 ih130848 =>
      intro v130849 v130850 b130853 b130854 m130855
      refine wp_of e229 c229_4 (rw_iload_n (pc' := 5) (z := v130849) rfl rfl ?_)
      refine wp_of e229 c229_5 (rw_aload_n (pc' := 6) (v := .ref r0) rfl rfl rfl ?_)
      refine wp_of e229 c229_6 (xg_K (pc' := 9) lf_9_337 hW g0 sh_42 (by decide) (by decide) rfl qpp rfl ?_)
      refine wp_of e229 c229_9 (xg_I (pc' := 12) lf_9_288 hW gpp sh_54 (by decide) (by decide) ty_54_5 rfl rfl (fun b130856 b130857 => ?_))
      refine wp_of e229 c229_12 (rw_icmp_ge (p1 := 42) (p2 := 15) (by decide) rfl ⟨by omega, by omega⟩ ⟨by omega, by omega⟩ (fun c130858 => ?_) (fun c130858 => ?_))
      · refine wp_of e229 c229_42 (rw_iload_n (pc' := 43) (z := v130850) rfl rfl ?_)
        exact wp_ireturn e229 c229_43 rfl ⟨rfl, rfl, v130850, rfl, ⟨by omega, by omega⟩⟩
      · refine wp_of e229 c229_15 (rw_iload_n (pc' := 16) (z := v130850) rfl rfl ?_)
        refine wp_of e229 c229_16 (rw_aload_n (pc' := 17) (v := .ref r0) rfl rfl rfl ?_)
        refine wp_of e229 c229_17 (xg_K (pc' := 20) lf_9_337 hW g0 sh_42 (by decide) (by decide) rfl qpp rfl ?_)
        refine wp_of e229 c229_20 (xg_R (pc' := 23) lf_9_291 hW gpp sh_54 (by decide) (by decide) ty_54_20 rfl rfl (fun r130859 q130860 g130861 => ?_))
        refine wp_of e229 c229_23 (rw_iload_n (pc' := 24) (z := v130849) rfl rfl ?_)
        refine wp_of e229 c229_24 (xa_I (so := 0) (pc' := 25) hW g130861 sh_66 (by decide) (ty_66 _) (by omega) (by omega) rfl (fun b130862 b130863 => ?_))
        refine wp_of e229 c229_25 (rw_iload_n (pc' := 26) (z := a1) rfl rfl ?_)
        refine wp_of e229 c229_26 (rw_icmp_gt (p1 := 33) (p2 := 29) (by decide) rfl ⟨by omega, by omega⟩ ⟨by omega, by omega⟩ (fun c130864 => ?_) (fun c130864 => ?_))
        · refine wp_of e229 c229_33 (rw_iconst (pc' := 34) rfl ?_)
          refine wp_of e229 c229_34 (rw_iadd (pc' := 35) rfl ?_)
          refine wp_of e229 c229_35 (rw_istore_n (pc' := 36) (z := v130850 + 0) (L' := [(2, vI (v130850 + 0)), (3, vI v130849), (0, .ref r0), (1, vI a1)]) rfl rfl rfl ?_)
          refine wp_of e229 c229_36 (rw_iinc (pc' := 39) (z := v130849) (L' := [(3, vI (v130849 + 1)), (2, vI (v130850 + 0)), (0, .ref r0), (1, vI a1)]) rfl rfl rfl rfl ?_)
          refine wp_of e229 c229_39 (rw_goto (p1 := 4) (by decide) ?_)
          exact wp_lc (ks := [3, 2, 0, 1]) (wl_c rfl (wl_c rfl (wl_c rfl (wl_c rfl wl_n)))) rfl (by decide) (ih130848 _ (by omega) (v130849 + 1) (v130850 + 0) ⟨by omega, by omega⟩ ⟨by omega, by omega⟩ rfl)
        · refine wp_of e229 c229_29 (rw_iconst (pc' := 30) rfl ?_)
          refine wp_of e229 c229_30 (rw_goto (p1 := 34) (by decide) ?_)
          refine wp_of e229 c229_34 (rw_iaddw (pc' := 35) rfl ?_)
          obtain ⟨v130865, e130866⟩ : ∃ x : Int, x = wq_w (v130850 + 1) := ⟨_, rfl⟩
          rw [← e130866]
          have b130867 : -2147483648 ≤ v130865 ∧ v130865 ≤ 2147483647 := by
            rw [e130866]
            exact wI_w _
          refine wp_of e229 c229_35 (rw_istore_n (pc' := 36) (z := v130865) (L' := [(2, vI v130865), (3, vI v130849), (0, .ref r0), (1, vI a1)]) rfl rfl rfl ?_)
          refine wp_of e229 c229_36 (rw_iinc (pc' := 39) (z := v130849) (L' := [(3, vI (v130849 + 1)), (2, vI v130865), (0, .ref r0), (1, vI a1)]) rfl rfl rfl rfl ?_)
          refine wp_of e229 c229_39 (rw_goto (p1 := 4) (by decide) ?_)
          exact wp_lc (ks := [3, 2, 0, 1]) (wl_c rfl (wl_c rfl (wl_c rfl (wl_c rfl wl_n)))) rfl (by decide) (ih130848 _ (by omega) (v130849 + 1) v130865 ⟨by omega, by omega⟩ ⟨by omega, by omega⟩ rfl)
  exact wp_lc (ks := [3, 2, 0, 1]) (wl_c rfl (wl_c rfl (wl_c rfl (wl_c rfl wl_n)))) rfl (by decide) (lp130846 _ 0 0 ⟨by omega, by omega⟩ ⟨by omega, by omega⟩ rfl)
