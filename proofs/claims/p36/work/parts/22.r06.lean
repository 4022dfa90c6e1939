section
/-! methods of the reference (own work, written by wip/gen2/sx.py) -/
/-! StrikeAwakeModel.agrees()I -/
theorem e237 : wq_en 237 = some (9, 2, false, some FieldType.int) := rfl
theorem cg237_0 : mc_cd 237 0 = some (.aload_n 0, 1) ∧ mc_cd 237 1 = some (.iconst 0, 1) ∧ mc_cd 237 2 = some (.putfield 48, 3) ∧ mc_cd 237 5 = some (.aload_n 0, 1) ∧ mc_cd 237 6 = some (.invokevirtual 412, 3) ∧ mc_cd 237 9 = some (.istore_n 1, 1) ∧ mc_cd 237 10 = some (.iload_n 1, 1) ∧ mc_cd 237 11 = some (.ifCond .le 11, 3) := by decide +kernel
theorem c237_0 : mc_cd 237 0 = some (.aload_n 0, 1) := cg237_0.1
theorem c237_1 : mc_cd 237 1 = some (.iconst 0, 1) := cg237_0.2.1
theorem c237_2 : mc_cd 237 2 = some (.putfield 48, 3) := cg237_0.2.2.1
theorem c237_5 : mc_cd 237 5 = some (.aload_n 0, 1) := cg237_0.2.2.2.1
theorem c237_6 : mc_cd 237 6 = some (.invokevirtual 412, 3) := cg237_0.2.2.2.2.1
theorem c237_9 : mc_cd 237 9 = some (.istore_n 1, 1) := cg237_0.2.2.2.2.2.1
theorem c237_10 : mc_cd 237 10 = some (.iload_n 1, 1) := cg237_0.2.2.2.2.2.2.1
theorem c237_11 : mc_cd 237 11 = some (.ifCond .le 11, 3) := cg237_0.2.2.2.2.2.2.2
theorem cg237_14 : mc_cd 237 14 = some (.aload_n 0, 1) ∧ mc_cd 237 15 = some (.iload_n 1, 1) ∧ mc_cd 237 16 = some (.invokevirtual 54, 3) ∧ mc_cd 237 19 = some (.goto 23, 3) ∧ mc_cd 237 22 = some (.aload_n 0, 1) ∧ mc_cd 237 23 = some (.aload_n 0, 1) ∧ mc_cd 237 24 = some (.aload_n 0, 1) ∧ mc_cd 237 25 = some (.getfield 36, 3) := by decide +kernel
theorem c237_14 : mc_cd 237 14 = some (.aload_n 0, 1) := cg237_14.1
theorem c237_15 : mc_cd 237 15 = some (.iload_n 1, 1) := cg237_14.2.1
theorem c237_16 : mc_cd 237 16 = some (.invokevirtual 54, 3) := cg237_14.2.2.1
theorem c237_19 : mc_cd 237 19 = some (.goto 23, 3) := cg237_14.2.2.2.1
theorem c237_22 : mc_cd 237 22 = some (.aload_n 0, 1) := cg237_14.2.2.2.2.1
theorem c237_23 : mc_cd 237 23 = some (.aload_n 0, 1) := cg237_14.2.2.2.2.2.1
theorem c237_24 : mc_cd 237 24 = some (.aload_n 0, 1) := cg237_14.2.2.2.2.2.2.1
theorem c237_25 : mc_cd 237 25 = some (.getfield 36, 3) := cg237_14.2.2.2.2.2.2.2
theorem cg237_28 : mc_cd 237 28 = some (.invokevirtual 418, 3) ∧ mc_cd 237 31 = some (.ifCond .eq 7, 3) ∧ mc_cd 237 34 = some (.iconst 1, 1) ∧ mc_cd 237 35 = some (.goto 4, 3) ∧ mc_cd 237 38 = some (.iconst 0, 1) ∧ mc_cd 237 39 = some (.invokevirtual 58, 3) ∧ mc_cd 237 42 = some (.ireturn, 1) := by decide +kernel
theorem c237_28 : mc_cd 237 28 = some (.invokevirtual 418, 3) := cg237_28.1
theorem c237_31 : mc_cd 237 31 = some (.ifCond .eq 7, 3) := cg237_28.2.1
theorem c237_34 : mc_cd 237 34 = some (.iconst 1, 1) := cg237_28.2.2.1
theorem c237_35 : mc_cd 237 35 = some (.goto 4, 3) := cg237_28.2.2.2.1
theorem c237_38 : mc_cd 237 38 = some (.iconst 0, 1) := cg237_28.2.2.2.2.1
theorem c237_39 : mc_cd 237 39 = some (.invokevirtual 58, 3) := cg237_28.2.2.2.2.2.1
theorem c237_42 : mc_cd 237 42 = some (.ireturn, 1) := cg237_28.2.2.2.2.2.2
abbrev q_237 (r0 : Nat) (T : wq_T) (H : wq_H) : Option Value → wq_T → wq_H → Prop := fun r T' H' => T = T' ∧ WT T H' ∧ wfr [(42, 0), (42, 1), (42, 2)] T H H' ∧ ∃ z : Int, some (vI z) = r ∧ ((-2147483648) ≤ z ∧ z ≤ 2147483647) ∧ (wKI H' r0 = 1)
set_option maxHeartbeats 4000000 in
theorem s_237 {kt : Nat → Option mc_E} {T : wq_T} {H : wq_H} {r0 : Nat} (hW : WT T H) (g0 : T.2.2.2 r0 = some 42) (p0 : wKI H r0 = 1) : wpc kt 6 237 [.ref r0] T H (q_237 r0 T H) := by
  refine wp_enter e237 (Nat.le_of_ble_eq_true rfl) rfl ?_
  have f0 : wfr [(42, 0), (42, 1), (42, 2)] T H H := wfr.rf
  show wp _ _ 237 0 [(0, .ref r0)] [] _ H _
  refine wp_of e237 c237_0 (rw_aload_n (pc' := 1) (v := .ref r0) rfl rfl rfl ?_)
  refine wp_of e237 c237_1 (rw_iconst (pc' := 2) rfl ?_)
  refine wp_of e237 c237_2 (xp_I (pc' := 5) lf_9_48 hW g0 sh_42 (by decide) (by decide) ty_42_0 rfl rfl (by omega) (by omega) ⟨by omega, by omega⟩ rfl (fun H134533 e134534 w134535 => ?_))
  have f134536 := f0.put' e134534 g0 rfl
  have k134537 : H134533 r0 0 = 0 := wq_u_s e134534
  refine wp_of e237 c237_5 (rw_aload_n (pc' := 6) (v := .ref r0) rfl rfl rfl ?_)
  refine wp_of e237 c237_6 (xc_V (pc' := 9) (r := r0) (as := []) (st := []) (lm_9_412) rfl rfl (Nat.le_of_ble_eq_true rfl) w134535 g0 sh_42 (by decide) rfl (by decide) (s_231 w134535 g0) (fun R134538 T134539 H134540 p134541 => ?_))
  obtain ⟨e134542, e134544, z134546, e134543, b134547, p134545⟩ := p134541
  subst e134542
  subst e134543
  subst e134544
  show wp _ _ 237 9 [(0, .ref r0)] [vI z134546] _ H134533 _
  refine wp_of e237 c237_9 (rw_istore_n (pc' := 10) (z := z134546) (L' := [(1, vI z134546), (0, .ref r0)]) rfl rfl rfl ?_)
  refine wp_of e237 c237_10 (rw_iload_n (pc' := 11) (z := z134546) rfl rfl ?_)
  refine wp_of e237 c237_11 (rw_if_le (p1 := 22) (p2 := 14) (by decide) rfl ⟨by omega, by omega⟩ (fun c134548 => ?_) (fun c134548 => ?_))
  · refine wp_of e237 c237_22 (rw_aload_n (pc' := 23) (v := .ref r0) rfl rfl rfl ?_)
    refine wp_of e237 c237_23 (rw_aload_n (pc' := 24) (v := .ref r0) rfl rfl rfl ?_)
    refine wp_of e237 c237_24 (rw_aload_n (pc' := 25) (v := .ref r0) rfl rfl rfl ?_)
    refine wp_of e237 c237_25 (xg_R (pc' := 28) lf_9_36 w134535 g0 sh_42 (by decide) (by decide) ty_42_26 rfl rfl (fun r134549 q134550 g134551 => ?_))
    obtain ⟨r134552, q134553, g134554⟩ := (w134535.opt g0 (t' := 54) (n := 33) (j := 3) (p := 0) (q := 0) rfl (by decide) rfl).resolve_left (by omega)
    refine wp_of e237 c237_28 (xc_V (pc' := 31) (r := r0) (as := [.ref r134549]) (st := [.ref r0]) (lm_9_418) rfl rfl (Nat.le_of_ble_eq_true rfl) w134535 g0 sh_42 (by decide) rfl (by decide) (s_238_m_said w134535 g0 g134551 q134553 g134554) (fun R134555 T134556 H134557 p134558 => ?_))
    obtain ⟨e134559, e134561, z134562, e134560, b134563⟩ := p134558
    subst e134559
    subst e134560
    subst e134561
    show wp _ _ 237 31 [(1, vI z134546), (0, .ref r0)] [vI z134562, .ref r0] _ H134533 _
    refine wp_of e237 c237_31 (rw_if_eq (p1 := 38) (p2 := 34) (by decide) rfl ⟨by omega, by omega⟩ (fun c134564 => ?_) (fun c134564 => ?_))
    · refine wp_of e237 c237_38 (rw_iconst (pc' := 39) rfl ?_)
      refine wp_of e237 c237_39 (xc_V (pc' := 42) (r := r0) (as := [vI 0]) (st := []) (lm_9_58) rfl rfl (Nat.le_of_ble_eq_true rfl) w134535 g0 sh_42 (by decide) rfl (by decide) (s_209 w134535 g0 ⟨by omega, by omega⟩) (fun R134565 T134566 H134567 p134568 => ?_))
      obtain ⟨e134569, w134571, f134572, z134573, e134570, b134574⟩ := p134568
      subst e134569
      subst e134570
      have f134575 := f134536.tr f134572 rfl
      show wp _ _ 237 42 [(1, vI z134546), (0, .ref r0)] [vI z134573] _ H134567 _
      have k134576 : wKI H134567 r0 = wKI H r0 := ((wKI_fr w134535 g0 f134572 rfl).trans (wKI_fr hW g0 ((wfr.rf (l := [(42, 0)])).put' e134534 g0 rfl) rfl))
      exact wp_ireturn e237 c237_42 rfl ⟨rfl, w134571, f134575, z134573, rfl, ⟨by omega, by omega⟩, by omega⟩
    · refine wp_of e237 c237_34 (rw_iconst (pc' := 35) rfl ?_)
      refine wp_of e237 c237_35 (rw_goto (p1 := 39) (by decide) ?_)
      refine wp_of e237 c237_39 (xc_V (pc' := 42) (r := r0) (as := [vI 1]) (st := []) (lm_9_58) rfl rfl (Nat.le_of_ble_eq_true rfl) w134535 g0 sh_42 (by decide) rfl (by decide) (s_209 w134535 g0 ⟨by omega, by omega⟩) (fun R134577 T134578 H134579 p134580 => ?_))
      obtain ⟨e134581, w134583, f134584, z134585, e134582, b134586⟩ := p134580
      subst e134581
      subst e134582
      have f134587 := f134536.tr f134584 rfl
      show wp _ _ 237 42 [(1, vI z134546), (0, .ref r0)] [vI z134585] _ H134579 _
      have k134588 : wKI H134579 r0 = wKI H r0 := ((wKI_fr w134535 g0 f134584 rfl).trans (wKI_fr hW g0 ((wfr.rf (l := [(42, 0)])).put' e134534 g0 rfl) rfl))
      exact wp_ireturn e237 c237_42 rfl ⟨rfl, w134583, f134587, z134585, rfl, ⟨by omega, by omega⟩, by omega⟩
  · refine wp_of e237 c237_14 (rw_aload_n (pc' := 15) (v := .ref r0) rfl rfl rfl ?_)
    refine wp_of e237 c237_15 (rw_iload_n (pc' := 16) (z := z134546) rfl rfl ?_)
    refine wp_of e237 c237_16 (xc_V (pc' := 19) (r := r0) (as := [vI z134546]) (st := []) (lm_9_54) rfl rfl (Nat.le_of_ble_eq_true rfl) w134535 g0 sh_42 (by decide) rfl (by decide) (s_170 w134535 g0 ⟨by omega, by omega⟩) (fun R134589 T134590 H134591 p134592 => ?_))
    obtain ⟨e134593, w134595, f134596, z134597, e134594, b134598⟩ := p134592
    subst e134593
    subst e134594
    have f134599 := f134536.tr f134596 rfl
    show wp _ _ 237 19 [(1, vI z134546), (0, .ref r0)] [vI z134597] _ H134591 _
    refine wp_of e237 c237_19 (rw_goto (p1 := 42) (by decide) ?_)
    have k134600 : wKI H134591 r0 = wKI H r0 := ((wKI_fr w134535 g0 f134596 rfl).trans (wKI_fr hW g0 ((wfr.rf (l := [(42, 0)])).put' e134534 g0 rfl) rfl))
    exact wp_ireturn e237 c237_42 rfl ⟨rfl, w134595, f134599, z134597, rfl, ⟨by omega, by omega⟩, by omega⟩
/-! StrikeAwakeModel.takes(I)V -/
theorem e243 : wq_en 243 = some (9, 4, false, none) := rfl
theorem cg243_0 : mc_cd 243 0 = some (.iload_n 1, 1) ∧ mc_cd 243 1 = some (.istore_n 2, 1) ∧ mc_cd 243 2 = some (.aload_n 0, 1) ∧ mc_cd 243 3 = some (.getfield 337, 3) ∧ mc_cd 243 6 = some (.getfield 188, 3) ∧ mc_cd 243 9 = some (.iconst 1, 1) ∧ mc_cd 243 10 = some (.isub, 1) ∧ mc_cd 243 11 = some (.istore_n 3, 1) := by decide +kernel
theorem c243_0 : mc_cd 243 0 = some (.iload_n 1, 1) := cg243_0.1
theorem c243_1 : mc_cd 243 1 = some (.istore_n 2, 1) := cg243_0.2.1
theorem c243_2 : mc_cd 243 2 = some (.aload_n 0, 1) := cg243_0.2.2.1
theorem c243_3 : mc_cd 243 3 = some (.getfield 337, 3) := cg243_0.2.2.2.1
theorem c243_6 : mc_cd 243 6 = some (.getfield 188, 3) := cg243_0.2.2.2.2.1
theorem c243_9 : mc_cd 243 9 = some (.iconst 1, 1) := cg243_0.2.2.2.2.2.1
theorem c243_10 : mc_cd 243 10 = some (.isub, 1) := cg243_0.2.2.2.2.2.2.1
theorem c243_11 : mc_cd 243 11 = some (.istore_n 3, 1) := cg243_0.2.2.2.2.2.2.2
theorem cg243_12 : mc_cd 243 12 = some (.iload_n 3, 1) ∧ mc_cd 243 13 = some (.ifCond .lt 32, 3) ∧ mc_cd 243 16 = some (.aload_n 0, 1) ∧ mc_cd 243 17 = some (.getfield 39, 3) ∧ mc_cd 243 20 = some (.iload_n 3, 1) ∧ mc_cd 243 21 = some (.iload_n 2, 1) ∧ mc_cd 243 22 = some (.aload_n 0, 1) ∧ mc_cd 243 23 = some (.getfield 21, 3) := by decide +kernel
theorem c243_12 : mc_cd 243 12 = some (.iload_n 3, 1) := cg243_12.1
theorem c243_13 : mc_cd 243 13 = some (.ifCond .lt 32, 3) := cg243_12.2.1
theorem c243_16 : mc_cd 243 16 = some (.aload_n 0, 1) := cg243_12.2.2.1
theorem c243_17 : mc_cd 243 17 = some (.getfield 39, 3) := cg243_12.2.2.2.1
theorem c243_20 : mc_cd 243 20 = some (.iload_n 3, 1) := cg243_12.2.2.2.2.1
theorem c243_21 : mc_cd 243 21 = some (.iload_n 2, 1) := cg243_12.2.2.2.2.2.1
theorem c243_22 : mc_cd 243 22 = some (.aload_n 0, 1) := cg243_12.2.2.2.2.2.2.1
theorem c243_23 : mc_cd 243 23 = some (.getfield 21, 3) := cg243_12.2.2.2.2.2.2.2
theorem cg243_26 : mc_cd 243 26 = some (.iload_n 3, 1) ∧ mc_cd 243 27 = some (.iaload, 1) ∧ mc_cd 243 28 = some (.irem, 1) ∧ mc_cd 243 29 = some (.iastore, 1) ∧ mc_cd 243 30 = some (.iload_n 2, 1) ∧ mc_cd 243 31 = some (.aload_n 0, 1) ∧ mc_cd 243 32 = some (.getfield 21, 3) ∧ mc_cd 243 35 = some (.iload_n 3, 1) := by decide +kernel
theorem c243_26 : mc_cd 243 26 = some (.iload_n 3, 1) := cg243_26.1
theorem c243_27 : mc_cd 243 27 = some (.iaload, 1) := cg243_26.2.1
theorem c243_28 : mc_cd 243 28 = some (.irem, 1) := cg243_26.2.2.1
theorem c243_29 : mc_cd 243 29 = some (.iastore, 1) := cg243_26.2.2.2.1
theorem c243_30 : mc_cd 243 30 = some (.iload_n 2, 1) := cg243_26.2.2.2.2.1
theorem c243_31 : mc_cd 243 31 = some (.aload_n 0, 1) := cg243_26.2.2.2.2.2.1
theorem c243_32 : mc_cd 243 32 = some (.getfield 21, 3) := cg243_26.2.2.2.2.2.2.1
theorem c243_35 : mc_cd 243 35 = some (.iload_n 3, 1) := cg243_26.2.2.2.2.2.2.2
theorem cg243_36 : mc_cd 243 36 = some (.iaload, 1) ∧ mc_cd 243 37 = some (.idiv, 1) ∧ mc_cd 243 38 = some (.istore_n 2, 1) ∧ mc_cd 243 39 = some (.iinc 3 (-1), 3) ∧ mc_cd 243 42 = some (.goto (-30), 3) ∧ mc_cd 243 45 = some (.return_, 1) := by decide +kernel
theorem c243_36 : mc_cd 243 36 = some (.iaload, 1) := cg243_36.1
theorem c243_37 : mc_cd 243 37 = some (.idiv, 1) := cg243_36.2.1
theorem c243_38 : mc_cd 243 38 = some (.istore_n 2, 1) := cg243_36.2.2.1
theorem c243_39 : mc_cd 243 39 = some (.iinc 3 (-1), 3) := cg243_36.2.2.2.1
theorem c243_42 : mc_cd 243 42 = some (.goto (-30), 3) := cg243_36.2.2.2.2.1
theorem c243_45 : mc_cd 243 45 = some (.return_, 1) := cg243_36.2.2.2.2.2
abbrev q_243 (r0 : Nat) (a1 : Int) (pp : Nat) (T : wq_T) (H : wq_H) : Option Value → wq_T → wq_H → Prop := fun r T' H' => T = T' ∧ WT T H' ∧ wfr [(51, 999)] T H H' ∧ none = r
set_option maxHeartbeats 4000000 in
theorem s_243 {kt : Nat → Option mc_E} {T : wq_T} {H : wq_H} {r0 : Nat} {a1 : Int} {pp : Nat} (hW : WT T H) (g0 : T.2.2.2 r0 = some 42) (i1 : 0 ≤ a1 ∧ a1 ≤ 2147483647) (qpp : H r0 3 = (pp : Int)) (gpp : T.2.2.2 pp = some 54) (p0 : 0 < wLM H r0) : wpc kt 1 243 [.ref r0, vI a1] T H (q_243 r0 a1 pp T H) := by
  refine wp_enter e243 (Nat.le_of_ble_eq_true rfl) rfl ?_
  have f0 : wfr [(51, 999)] T H H := wfr.rf
  show wp _ _ 243 0 [(0, .ref r0), (1, vI a1)] [] _ H _
  refine wp_of e243 c243_0 (rw_iload_n (pc' := 1) (z := a1) rfl rfl ?_)
  refine wp_of e243 c243_1 (rw_istore_n (pc' := 2) (z := a1) (L' := [(2, vI a1), (0, .ref r0), (1, vI a1)]) rfl rfl rfl ?_)
  refine wp_of e243 c243_2 (rw_aload_n (pc' := 3) (v := .ref r0) rfl rfl rfl ?_)
  refine wp_of e243 c243_3 (xg_K (pc' := 6) lf_9_337 hW g0 sh_42 (by decide) (by decide) rfl qpp rfl ?_)
  refine wp_of e243 c243_6 (xg_I (pc' := 9) lf_9_188 hW gpp sh_54 (by decide) (by decide) ty_54_3 rfl rfl (fun b134670 b134671 => ?_))
  refine wp_of e243 c243_9 (rw_iconst (pc' := 10) rfl ?_)
  refine wp_of e243 c243_10 (rw_isub (pc' := 11) rfl ?_)
  refine wp_of e243 c243_11 (rw_istore_n (pc' := 12) (z := (H pp 3) - 1) (L' := [(3, vI ((H pp 3) - 1)), (2, vI a1), (0, .ref r0), (1, vI a1)]) rfl rfl rfl ?_)
  have lp134716 : ∀ (n134717 : Nat) (v134719 : Int) (v134720 : Int) (H134721 : wq_H), WT T H134721 → wfr [(51, 999)] T H H134721 → ((-1) ≤ v134719 ∧ v134719 ≤ 5) → (0 ≤ v134720 ∧ v134720 ≤ 2147483647) → (v134719 ≤ H134721 pp 3 - 1) → (v134719 - (-1)).toNat = n134717 → wp kt 0 243 12 [(3, vI v134719), (2, vI v134720), (0, .ref r0)] [] T H134721 (q_243 r0 a1 pp T H) := by
    intro n134717
    induction n134717 using Nat.strongRecOn with
    | _ n134717 ih134718 =>
      intro v134719 v134720 H134721 w134722 f134723 b134724 b134725 x134726 m134727
      have f134728 := f0.tr f134723 rfl
      have k134729 : H134721 pp 3 = H pp 3 := (f134723 pp 3 _ gpp rfl)
      have k134730 : wLM H134721 r0 = wLM H r0 := (wLM_fr hW g0 f134723 rfl)
      obtain ⟨r134731, q134732, g134733⟩ := w134722.ref g0 (t' := 45) (n := 33) (j := 21) (p := 0) (q := 0) rfl (by decide) rfl
      have k134734 : H134721 r0 3 = H r0 3 := (f134723 r0 3 _ g0 rfl)
      have q134735 : H134721 r0 3 = (pp : Int) := k134734.trans qpp
      have hx : 0 ≤ v134719 → 0 < H134721 r134731 (v134719).toNat := fun q => wLM_sp w134722 gpp g134733 q134735 q134732 (by omega) (by omega)
      refine wp_of e243 c243_12 (rw_iload_n (pc' := 13) (z := v134719) rfl rfl ?_)
      refine wp_of e243 c243_13 (rw_if_lt (p1 := 45) (p2 := 16) (by decide) rfl ⟨by omega, by omega⟩ (fun c134736 => ?_) (fun c134736 => ?_))
      · exact wp_return e243 c243_45 rfl ⟨rfl, w134722, f134728, rfl⟩
      · refine wp_of e243 c243_16 (rw_aload_n (pc' := 17) (v := .ref r0) rfl rfl rfl ?_)
        refine wp_of e243 c243_17 (xg_R (pc' := 20) lf_9_39 w134722 g0 sh_42 (by decide) (by decide) ty_42_27 rfl rfl (fun r134737 q134738 g134739 => ?_))
        refine wp_of e243 c243_20 (rw_iload_n (pc' := 21) (z := v134719) rfl rfl ?_)
        refine wp_of e243 c243_21 (rw_iload_n (pc' := 22) (z := v134720) rfl rfl ?_)
        refine wp_of e243 c243_22 (rw_aload_n (pc' := 23) (v := .ref r0) rfl rfl rfl ?_)
        refine wp_of e243 c243_23 (xg_K (pc' := 26) lf_9_21 w134722 g0 sh_42 (by decide) (by decide) rfl q134732 rfl ?_)
        refine wp_of e243 c243_26 (rw_iload_n (pc' := 27) (z := v134719) rfl rfl ?_)
        refine wp_of e243 c243_27 (xa_I (so := 0) (pc' := 28) w134722 g134733 sh_45 (by decide) (ty_45 _) (by omega) (by omega) rfl (fun b134740 b134741 => ?_))
        refine wp_of e243 c243_28 (rw_irem (pc' := 29) rfl ⟨by omega, by omega⟩ (by omega) ?_)
        obtain ⟨v134742, e134743⟩ : ∃ x : Int, x = wq_rem v134720 (H134721 r134731 (v134719.toNat)) := ⟨_, rfl⟩
        rw [← e134743]
        have b134744 : 0 ≤ v134742 ∧ v134742 < (H134721 r134731 (v134719.toNat)) := by
          rw [e134743]
          rw [wq_rem_e ⟨by omega, by omega⟩ ⟨by omega, by omega⟩]; exact ⟨Int.emod_nonneg _ (by omega), Int.emod_lt_of_pos _ (by omega)⟩
        refine wp_of e243 c243_29 (xs_I (pc' := 30) w134722 g134739 (by decide) sh_51 (by decide) (ty_51 _) (by omega) (by omega) ⟨by omega, by omega⟩ (by omega) (by omega) rfl (fun H134745 e134746 w134747 => ?_))
        have f134748 := f134728.put' e134746 g134739 rfl
        have f134749 := f134723.put' e134746 g134739 rfl
        refine wp_of e243 c243_30 (rw_iload_n (pc' := 31) (z := v134720) rfl rfl ?_)
        refine wp_of e243 c243_31 (rw_aload_n (pc' := 32) (v := .ref r0) rfl rfl rfl ?_)
        have k134750 : H134745 r0 21 = H134721 r0 21 := (wq_u_t e134746 g134739 g0 rfl 21)
        have q134751 : H134745 r0 21 = (r134731 : Int) := k134750.trans q134732
        refine wp_of e243 c243_32 (xg_K (pc' := 35) lf_9_21 w134747 g0 sh_42 (by decide) (by decide) rfl q134751 rfl ?_)
        refine wp_of e243 c243_35 (rw_iload_n (pc' := 36) (z := v134719) rfl rfl ?_)
        have k134752 : H134745 r134731 (v134719.toNat) = H134721 r134731 (v134719.toNat) := (wq_u_t e134746 g134739 g134733 rfl (v134719.toNat))
        refine wp_of e243 c243_36 (xa_I (so := 0) (pc' := 37) w134747 g134733 sh_45 (by decide) (ty_45 _) (by omega) (by omega) rfl (fun b134753 b134754 => ?_))
        refine wp_of e243 c243_37 (rw_idiv (pc' := 38) rfl ⟨by omega, by omega⟩ (by omega) ?_)
        obtain ⟨v134755, e134756⟩ : ∃ x : Int, x = wq_div v134720 (H134745 r134731 (v134719.toNat)) := ⟨_, rfl⟩
        rw [← e134756]
        have b134757 : 0 ≤ v134755 ∧ v134755 ≤ v134720 := by
          rw [e134756]
          rw [wq_div_e ⟨by omega, by omega⟩ ⟨by omega, by omega⟩]; exact ⟨Int.ediv_nonneg (by omega) (by omega), Int.ediv_le_self _ (by omega)⟩
        refine wp_of e243 c243_38 (rw_istore_n (pc' := 39) (z := v134755) (L' := [(2, vI v134755), (3, vI v134719), (0, .ref r0)]) rfl rfl rfl ?_)
        refine wp_of e243 c243_39 (rw_iinc (pc' := 42) (z := v134719) (L' := [(3, vI (v134719 + (-1))), (2, vI v134755), (0, .ref r0)]) rfl rfl rfl rfl ?_)
        refine wp_of e243 c243_42 (rw_goto (p1 := 12) (by decide) ?_)
        have k134758 : H134745 pp 3 = H134721 pp 3 := (wq_u_t e134746 g134739 gpp rfl 3)
        have k134759 : wLM H134745 r0 = wLM H134721 r0 := (wLM_fr w134722 g0 ((wfr.rf (l := [(51, 999)])).put' e134746 g134739 rfl) rfl)
        exact wp_lc (ks := [3, 2, 0]) (wl_c rfl (wl_c rfl (wl_c rfl wl_n))) rfl (by decide) (ih134718 _ (by omega) (v134719 + (-1)) v134755 H134745 w134747 f134749 ⟨by omega, by omega⟩ ⟨by omega, by omega⟩ (by omega) rfl)
  exact wp_lc (ks := [3, 2, 0, 1]) (wl_c rfl (wl_c rfl (wl_c rfl wl_n))) rfl (by decide) (lp134716 _ ((H pp 3) - 1) a1 H hW wfr.rf ⟨by omega, by omega⟩ ⟨by omega, by omega⟩ (by omega) rfl)
/-! StrikeAwakeModel.knows()V -/
theorem e242 : wq_en 242 = some (9, 2, false, none) := rfl
theorem cg242_0 : mc_cd 242 0 = some (.aload_n 0, 1) ∧ mc_cd 242 1 = some (.getfield 353, 3) ∧ mc_cd 242 4 = some (.ifCond .eq 4, 3) ∧ mc_cd 242 7 = some (.return_, 1) ∧ mc_cd 242 8 = some (.aload_n 0, 1) ∧ mc_cd 242 9 = some (.iconst 0, 1) ∧ mc_cd 242 10 = some (.putfield 422, 3) ∧ mc_cd 242 13 = some (.iconst 0, 1) := by decide +kernel
theorem c242_0 : mc_cd 242 0 = some (.aload_n 0, 1) := cg242_0.1
theorem c242_1 : mc_cd 242 1 = some (.getfield 353, 3) := cg242_0.2.1
theorem c242_4 : mc_cd 242 4 = some (.ifCond .eq 4, 3) := cg242_0.2.2.1
theorem c242_7 : mc_cd 242 7 = some (.return_, 1) := cg242_0.2.2.2.1
theorem c242_8 : mc_cd 242 8 = some (.aload_n 0, 1) := cg242_0.2.2.2.2.1
theorem c242_9 : mc_cd 242 9 = some (.iconst 0, 1) := cg242_0.2.2.2.2.2.1
theorem c242_10 : mc_cd 242 10 = some (.putfield 422, 3) := cg242_0.2.2.2.2.2.2.1
theorem c242_13 : mc_cd 242 13 = some (.iconst 0, 1) := cg242_0.2.2.2.2.2.2.2
theorem cg242_14 : mc_cd 242 14 = some (.istore_n 1, 1) ∧ mc_cd 242 15 = some (.iload_n 1, 1) ∧ mc_cd 242 16 = some (.i2l, 1) ∧ mc_cd 242 17 = some (.aload_n 0, 1) ∧ mc_cd 242 18 = some (.invokevirtual 376, 3) ∧ mc_cd 242 21 = some (.lcmp, 1) ∧ mc_cd 242 22 = some (.ifCond .ge 48, 3) ∧ mc_cd 242 25 = some (.aload_n 0, 1) := by decide +kernel
theorem c242_14 : mc_cd 242 14 = some (.istore_n 1, 1) := cg242_14.1
theorem c242_15 : mc_cd 242 15 = some (.iload_n 1, 1) := cg242_14.2.1
theorem c242_16 : mc_cd 242 16 = some (.i2l, 1) := cg242_14.2.2.1
theorem c242_17 : mc_cd 242 17 = some (.aload_n 0, 1) := cg242_14.2.2.2.1
theorem c242_18 : mc_cd 242 18 = some (.invokevirtual 376, 3) := cg242_14.2.2.2.2.1
theorem c242_21 : mc_cd 242 21 = some (.lcmp, 1) := cg242_14.2.2.2.2.2.1
theorem c242_22 : mc_cd 242 22 = some (.ifCond .ge 48, 3) := cg242_14.2.2.2.2.2.2.1
theorem c242_25 : mc_cd 242 25 = some (.aload_n 0, 1) := cg242_14.2.2.2.2.2.2.2
theorem cg242_26 : mc_cd 242 26 = some (.iload_n 1, 1) ∧ mc_cd 242 27 = some (.invokevirtual 425, 3) ∧ mc_cd 242 30 = some (.aload_n 0, 1) ∧ mc_cd 242 31 = some (.aload_n 0, 1) ∧ mc_cd 242 32 = some (.getfield 39, 3) ∧ mc_cd 242 35 = some (.invokevirtual 418, 3) ∧ mc_cd 242 38 = some (.ifCond .ne 6, 3) ∧ mc_cd 242 41 = some (.goto 23, 3) := by decide +kernel
theorem c242_26 : mc_cd 242 26 = some (.iload_n 1, 1) := cg242_26.1
theorem c242_27 : mc_cd 242 27 = some (.invokevirtual 425, 3) := cg242_26.2.1
theorem c242_30 : mc_cd 242 30 = some (.aload_n 0, 1) := cg242_26.2.2.1
theorem c242_31 : mc_cd 242 31 = some (.aload_n 0, 1) := cg242_26.2.2.2.1
theorem c242_32 : mc_cd 242 32 = some (.getfield 39, 3) := cg242_26.2.2.2.2.1
theorem c242_35 : mc_cd 242 35 = some (.invokevirtual 418, 3) := cg242_26.2.2.2.2.2.1
theorem c242_38 : mc_cd 242 38 = some (.ifCond .ne 6, 3) := cg242_26.2.2.2.2.2.2.1
theorem c242_41 : mc_cd 242 41 = some (.goto 23, 3) := cg242_26.2.2.2.2.2.2.2
theorem cg242_44 : mc_cd 242 44 = some (.aload_n 0, 1) ∧ mc_cd 242 45 = some (.getfield 42, 3) ∧ mc_cd 242 48 = some (.aload_n 0, 1) ∧ mc_cd 242 49 = some (.getfield 422, 3) ∧ mc_cd 242 52 = some (.iload_n 1, 1) ∧ mc_cd 242 53 = some (.iastore, 1) ∧ mc_cd 242 54 = some (.aload_n 0, 1) ∧ mc_cd 242 55 = some (.dup, 1) := by decide +kernel
theorem c242_44 : mc_cd 242 44 = some (.aload_n 0, 1) := cg242_44.1
theorem c242_45 : mc_cd 242 45 = some (.getfield 42, 3) := cg242_44.2.1
theorem c242_48 : mc_cd 242 48 = some (.aload_n 0, 1) := cg242_44.2.2.1
theorem c242_49 : mc_cd 242 49 = some (.getfield 422, 3) := cg242_44.2.2.2.1
theorem c242_52 : mc_cd 242 52 = some (.iload_n 1, 1) := cg242_44.2.2.2.2.1
theorem c242_53 : mc_cd 242 53 = some (.iastore, 1) := cg242_44.2.2.2.2.2.1
theorem c242_54 : mc_cd 242 54 = some (.aload_n 0, 1) := cg242_44.2.2.2.2.2.2.1
theorem c242_55 : mc_cd 242 55 = some (.dup, 1) := cg242_44.2.2.2.2.2.2.2
theorem cg242_56 : mc_cd 242 56 = some (.getfield 422, 3) ∧ mc_cd 242 59 = some (.iconst 1, 1) ∧ mc_cd 242 60 = some (.iadd, 1) ∧ mc_cd 242 61 = some (.putfield 422, 3) ∧ mc_cd 242 64 = some (.iinc 1 1, 3) ∧ mc_cd 242 67 = some (.goto (-52), 3) ∧ mc_cd 242 70 = some (.aload_n 0, 1) ∧ mc_cd 242 71 = some (.iconst 1, 1) := by decide +kernel
theorem c242_56 : mc_cd 242 56 = some (.getfield 422, 3) := cg242_56.1
theorem c242_59 : mc_cd 242 59 = some (.iconst 1, 1) := cg242_56.2.1
theorem c242_60 : mc_cd 242 60 = some (.iadd, 1) := cg242_56.2.2.1
theorem c242_61 : mc_cd 242 61 = some (.putfield 422, 3) := cg242_56.2.2.2.1
theorem c242_64 : mc_cd 242 64 = some (.iinc 1 1, 3) := cg242_56.2.2.2.2.1
theorem c242_67 : mc_cd 242 67 = some (.goto (-52), 3) := cg242_56.2.2.2.2.2.1
theorem c242_70 : mc_cd 242 70 = some (.aload_n 0, 1) := cg242_56.2.2.2.2.2.2.1
theorem c242_71 : mc_cd 242 71 = some (.iconst 1, 1) := cg242_56.2.2.2.2.2.2.2
theorem cg242_72 : mc_cd 242 72 = some (.putfield 353, 3) ∧ mc_cd 242 75 = some (.return_, 1) := by decide +kernel
theorem c242_72 : mc_cd 242 72 = some (.putfield 353, 3) := cg242_72.1
theorem c242_75 : mc_cd 242 75 = some (.return_, 1) := cg242_72.2
/-! StrikeAwakeModel.refusesWorlds(Z)I -/
theorem e241 : wq_en 241 = some (9, 2, false, some FieldType.int) := rfl
theorem cg241_0 : mc_cd 241 0 = some (.iload_n 1, 1) ∧ mc_cd 241 1 = some (.ifCond .ne 5, 3) ∧ mc_cd 241 4 = some (.iconst 1, 1) ∧ mc_cd 241 5 = some (.ireturn, 1) ∧ mc_cd 241 6 = some (.aload_n 0, 1) ∧ mc_cd 241 7 = some (.invokevirtual 376, 3) ∧ mc_cd 241 10 = some (.ldc2_w 428, 3) ∧ mc_cd 241 13 = some (.lcmp, 1) := by decide +kernel
theorem c241_0 : mc_cd 241 0 = some (.iload_n 1, 1) := cg241_0.1
theorem c241_1 : mc_cd 241 1 = some (.ifCond .ne 5, 3) := cg241_0.2.1
theorem c241_4 : mc_cd 241 4 = some (.iconst 1, 1) := cg241_0.2.2.1
theorem c241_5 : mc_cd 241 5 = some (.ireturn, 1) := cg241_0.2.2.2.1
theorem c241_6 : mc_cd 241 6 = some (.aload_n 0, 1) := cg241_0.2.2.2.2.1
theorem c241_7 : mc_cd 241 7 = some (.invokevirtual 376, 3) := cg241_0.2.2.2.2.2.1
theorem c241_10 : mc_cd 241 10 = some (.ldc2_w 428, 3) := cg241_0.2.2.2.2.2.2.1
theorem c241_13 : mc_cd 241 13 = some (.lcmp, 1) := cg241_0.2.2.2.2.2.2.2
theorem cg241_14 : mc_cd 241 14 = some (.ifCond .le 5, 3) ∧ mc_cd 241 17 = some (.iconst 3, 1) ∧ mc_cd 241 18 = some (.ireturn, 1) ∧ mc_cd 241 19 = some (.aload_n 0, 1) ∧ mc_cd 241 20 = some (.invokevirtual 430, 3) ∧ mc_cd 241 23 = some (.iconst 0, 1) ∧ mc_cd 241 24 = some (.ireturn, 1) := by decide +kernel
theorem c241_14 : mc_cd 241 14 = some (.ifCond .le 5, 3) := cg241_14.1
theorem c241_17 : mc_cd 241 17 = some (.iconst 3, 1) := cg241_14.2.1
theorem c241_18 : mc_cd 241 18 = some (.ireturn, 1) := cg241_14.2.2.1
theorem c241_19 : mc_cd 241 19 = some (.aload_n 0, 1) := cg241_14.2.2.2.1
theorem c241_20 : mc_cd 241 20 = some (.invokevirtual 430, 3) := cg241_14.2.2.2.2.1
theorem c241_23 : mc_cd 241 23 = some (.iconst 0, 1) := cg241_14.2.2.2.2.2.1
theorem c241_24 : mc_cd 241 24 = some (.ireturn, 1) := cg241_14.2.2.2.2.2.2
/-! StrikeAwakeModel.worlds()I -/
theorem e240 : wq_en 240 = some (9, 2, false, some FieldType.int) := rfl
theorem cg240_0 : mc_cd 240 0 = some (.aload_n 0, 1) ∧ mc_cd 240 1 = some (.iconst 0, 1) ∧ mc_cd 240 2 = some (.putfield 48, 3) ∧ mc_cd 240 5 = some (.aload_n 0, 1) ∧ mc_cd 240 6 = some (.aload_n 0, 1) ∧ mc_cd 240 7 = some (.getfield 337, 3) ∧ mc_cd 240 10 = some (.ifnull 7, 3) ∧ mc_cd 240 13 = some (.iconst 1, 1) := by decide +kernel
theorem c240_0 : mc_cd 240 0 = some (.aload_n 0, 1) := cg240_0.1
theorem c240_1 : mc_cd 240 1 = some (.iconst 0, 1) := cg240_0.2.1
theorem c240_2 : mc_cd 240 2 = some (.putfield 48, 3) := cg240_0.2.2.1
theorem c240_5 : mc_cd 240 5 = some (.aload_n 0, 1) := cg240_0.2.2.2.1
theorem c240_6 : mc_cd 240 6 = some (.aload_n 0, 1) := cg240_0.2.2.2.2.1
theorem c240_7 : mc_cd 240 7 = some (.getfield 337, 3) := cg240_0.2.2.2.2.2.1
theorem c240_10 : mc_cd 240 10 = some (.ifnull 7, 3) := cg240_0.2.2.2.2.2.2.1
theorem c240_13 : mc_cd 240 13 = some (.iconst 1, 1) := cg240_0.2.2.2.2.2.2.2
theorem cg240_14 : mc_cd 240 14 = some (.goto 4, 3) ∧ mc_cd 240 17 = some (.iconst 0, 1) ∧ mc_cd 240 18 = some (.invokevirtual 433, 3) ∧ mc_cd 240 21 = some (.istore_n 1, 1) ∧ mc_cd 240 22 = some (.iload_n 1, 1) ∧ mc_cd 240 23 = some (.ifCond .le 11, 3) ∧ mc_cd 240 26 = some (.aload_n 0, 1) ∧ mc_cd 240 27 = some (.iload_n 1, 1) := by decide +kernel
theorem c240_14 : mc_cd 240 14 = some (.goto 4, 3) := cg240_14.1
theorem c240_17 : mc_cd 240 17 = some (.iconst 0, 1) := cg240_14.2.1
theorem c240_18 : mc_cd 240 18 = some (.invokevirtual 433, 3) := cg240_14.2.2.1
theorem c240_21 : mc_cd 240 21 = some (.istore_n 1, 1) := cg240_14.2.2.2.1
theorem c240_22 : mc_cd 240 22 = some (.iload_n 1, 1) := cg240_14.2.2.2.2.1
theorem c240_23 : mc_cd 240 23 = some (.ifCond .le 11, 3) := cg240_14.2.2.2.2.2.1
theorem c240_26 : mc_cd 240 26 = some (.aload_n 0, 1) := cg240_14.2.2.2.2.2.2.1
theorem c240_27 : mc_cd 240 27 = some (.iload_n 1, 1) := cg240_14.2.2.2.2.2.2.2
theorem cg240_28 : mc_cd 240 28 = some (.invokevirtual 54, 3) ∧ mc_cd 240 31 = some (.goto 11, 3) ∧ mc_cd 240 34 = some (.aload_n 0, 1) ∧ mc_cd 240 35 = some (.aload_n 0, 1) ∧ mc_cd 240 36 = some (.getfield 422, 3) ∧ mc_cd 240 39 = some (.invokevirtual 58, 3) ∧ mc_cd 240 42 = some (.ireturn, 1) := by decide +kernel
theorem c240_28 : mc_cd 240 28 = some (.invokevirtual 54, 3) := cg240_28.1
theorem c240_31 : mc_cd 240 31 = some (.goto 11, 3) := cg240_28.2.1
theorem c240_34 : mc_cd 240 34 = some (.aload_n 0, 1) := cg240_28.2.2.1
theorem c240_35 : mc_cd 240 35 = some (.aload_n 0, 1) := cg240_28.2.2.2.1
theorem c240_36 : mc_cd 240 36 = some (.getfield 422, 3) := cg240_28.2.2.2.2.1
theorem c240_39 : mc_cd 240 39 = some (.invokevirtual 58, 3) := cg240_28.2.2.2.2.2.1
theorem c240_42 : mc_cd 240 42 = some (.ireturn, 1) := cg240_28.2.2.2.2.2.2
/-! StrikeAwakeModel.can()I -/
theorem e244 : wq_en 244 = some (9, 2, false, some FieldType.int) := rfl
theorem cg244_0 : mc_cd 244 0 = some (.aload_n 0, 1) ∧ mc_cd 244 1 = some (.iconst 0, 1) ∧ mc_cd 244 2 = some (.putfield 48, 3) ∧ mc_cd 244 5 = some (.aload_n 0, 1) ∧ mc_cd 244 6 = some (.aload_n 0, 1) ∧ mc_cd 244 7 = some (.getfield 337, 3) ∧ mc_cd 244 10 = some (.ifnull 7, 3) ∧ mc_cd 244 13 = some (.iconst 1, 1) := by decide +kernel
theorem c244_0 : mc_cd 244 0 = some (.aload_n 0, 1) := cg244_0.1
theorem c244_1 : mc_cd 244 1 = some (.iconst 0, 1) := cg244_0.2.1
theorem c244_2 : mc_cd 244 2 = some (.putfield 48, 3) := cg244_0.2.2.1
theorem c244_5 : mc_cd 244 5 = some (.aload_n 0, 1) := cg244_0.2.2.2.1
theorem c244_6 : mc_cd 244 6 = some (.aload_n 0, 1) := cg244_0.2.2.2.2.1
theorem c244_7 : mc_cd 244 7 = some (.getfield 337, 3) := cg244_0.2.2.2.2.2.1
theorem c244_10 : mc_cd 244 10 = some (.ifnull 7, 3) := cg244_0.2.2.2.2.2.2.1
theorem c244_13 : mc_cd 244 13 = some (.iconst 1, 1) := cg244_0.2.2.2.2.2.2.2
theorem cg244_14 : mc_cd 244 14 = some (.goto 4, 3) ∧ mc_cd 244 17 = some (.iconst 0, 1) ∧ mc_cd 244 18 = some (.invokevirtual 433, 3) ∧ mc_cd 244 21 = some (.istore_n 1, 1) ∧ mc_cd 244 22 = some (.iload_n 1, 1) ∧ mc_cd 244 23 = some (.ifCond .le 11, 3) ∧ mc_cd 244 26 = some (.aload_n 0, 1) ∧ mc_cd 244 27 = some (.iload_n 1, 1) := by decide +kernel
theorem c244_14 : mc_cd 244 14 = some (.goto 4, 3) := cg244_14.1
theorem c244_17 : mc_cd 244 17 = some (.iconst 0, 1) := cg244_14.2.1
theorem c244_18 : mc_cd 244 18 = some (.invokevirtual 433, 3) := cg244_14.2.2.1
theorem c244_21 : mc_cd 244 21 = some (.istore_n 1, 1) := cg244_14.2.2.2.1
theorem c244_22 : mc_cd 244 22 = some (.iload_n 1, 1) := cg244_14.2.2.2.2.1
theorem c244_23 : mc_cd 244 23 = some (.ifCond .le 11, 3) := cg244_14.2.2.2.2.2.1
theorem c244_26 : mc_cd 244 26 = some (.aload_n 0, 1) := cg244_14.2.2.2.2.2.2.1
theorem c244_27 : mc_cd 244 27 = some (.iload_n 1, 1) := cg244_14.2.2.2.2.2.2.2
theorem cg244_28 : mc_cd 244 28 = some (.invokevirtual 54, 3) ∧ mc_cd 244 31 = some (.goto 19, 3) ∧ mc_cd 244 34 = some (.aload_n 0, 1) ∧ mc_cd 244 35 = some (.aload_n 0, 1) ∧ mc_cd 244 36 = some (.getfield 422, 3) ∧ mc_cd 244 39 = some (.ifCond .le 7, 3) ∧ mc_cd 244 42 = some (.iconst 1, 1) ∧ mc_cd 244 43 = some (.goto 4, 3) := by decide +kernel
theorem c244_28 : mc_cd 244 28 = some (.invokevirtual 54, 3) := cg244_28.1
theorem c244_31 : mc_cd 244 31 = some (.goto 19, 3) := cg244_28.2.1
theorem c244_34 : mc_cd 244 34 = some (.aload_n 0, 1) := cg244_28.2.2.1
theorem c244_35 : mc_cd 244 35 = some (.aload_n 0, 1) := cg244_28.2.2.2.1
theorem c244_36 : mc_cd 244 36 = some (.getfield 422, 3) := cg244_28.2.2.2.2.1
theorem c244_39 : mc_cd 244 39 = some (.ifCond .le 7, 3) := cg244_28.2.2.2.2.2.1
theorem c244_42 : mc_cd 244 42 = some (.iconst 1, 1) := cg244_28.2.2.2.2.2.2.1
theorem c244_43 : mc_cd 244 43 = some (.goto 4, 3) := cg244_28.2.2.2.2.2.2.2
theorem cg244_46 : mc_cd 244 46 = some (.iconst 0, 1) ∧ mc_cd 244 47 = some (.invokevirtual 58, 3) ∧ mc_cd 244 50 = some (.ireturn, 1) := by decide +kernel
theorem c244_46 : mc_cd 244 46 = some (.iconst 0, 1) := cg244_46.1
theorem c244_47 : mc_cd 244 47 = some (.invokevirtual 58, 3) := cg244_46.2.1
theorem c244_50 : mc_cd 244 50 = some (.ireturn, 1) := cg244_46.2.2
/-! StrikeAwakeModel.world(II)I -/
theorem e245 : wq_en 245 = some (9, 4, false, some FieldType.int) := rfl
theorem cg245_0 : mc_cd 245 0 = some (.aload_n 0, 1) ∧ mc_cd 245 1 = some (.iconst 0, 1) ∧ mc_cd 245 2 = some (.putfield 48, 3) ∧ mc_cd 245 5 = some (.aload_n 0, 1) ∧ mc_cd 245 6 = some (.aload_n 0, 1) ∧ mc_cd 245 7 = some (.iload_n 2, 1) ∧ mc_cd 245 8 = some (.invokevirtual 364, 3) ∧ mc_cd 245 11 = some (.ifCond .eq 11, 3) := by decide +kernel
theorem c245_0 : mc_cd 245 0 = some (.aload_n 0, 1) := cg245_0.1
theorem c245_1 : mc_cd 245 1 = some (.iconst 0, 1) := cg245_0.2.1
theorem c245_2 : mc_cd 245 2 = some (.putfield 48, 3) := cg245_0.2.2.1
theorem c245_5 : mc_cd 245 5 = some (.aload_n 0, 1) := cg245_0.2.2.2.1
theorem c245_6 : mc_cd 245 6 = some (.aload_n 0, 1) := cg245_0.2.2.2.2.1
theorem c245_7 : mc_cd 245 7 = some (.iload_n 2, 1) := cg245_0.2.2.2.2.2.1
theorem c245_8 : mc_cd 245 8 = some (.invokevirtual 364, 3) := cg245_0.2.2.2.2.2.2.1
theorem c245_11 : mc_cd 245 11 = some (.ifCond .eq 11, 3) := cg245_0.2.2.2.2.2.2.2
theorem cg245_14 : mc_cd 245 14 = some (.iload_n 1, 1) ∧ mc_cd 245 15 = some (.ifCond .lt 7, 3) ∧ mc_cd 245 18 = some (.iconst 1, 1) ∧ mc_cd 245 19 = some (.goto 4, 3) ∧ mc_cd 245 22 = some (.iconst 0, 1) ∧ mc_cd 245 23 = some (.invokevirtual 433, 3) ∧ mc_cd 245 26 = some (.istore_n 3, 1) ∧ mc_cd 245 27 = some (.iload_n 3, 1) := by decide +kernel
theorem c245_14 : mc_cd 245 14 = some (.iload_n 1, 1) := cg245_14.1
theorem c245_15 : mc_cd 245 15 = some (.ifCond .lt 7, 3) := cg245_14.2.1
theorem c245_18 : mc_cd 245 18 = some (.iconst 1, 1) := cg245_14.2.2.1
theorem c245_19 : mc_cd 245 19 = some (.goto 4, 3) := cg245_14.2.2.2.1
theorem c245_22 : mc_cd 245 22 = some (.iconst 0, 1) := cg245_14.2.2.2.2.1
theorem c245_23 : mc_cd 245 23 = some (.invokevirtual 433, 3) := cg245_14.2.2.2.2.2.1
theorem c245_26 : mc_cd 245 26 = some (.istore_n 3, 1) := cg245_14.2.2.2.2.2.2.1
theorem c245_27 : mc_cd 245 27 = some (.iload_n 3, 1) := cg245_14.2.2.2.2.2.2.2
theorem cg245_28 : mc_cd 245 28 = some (.ifCond .ne 13, 3) ∧ mc_cd 245 31 = some (.iload_n 1, 1) ∧ mc_cd 245 32 = some (.aload_n 0, 1) ∧ mc_cd 245 33 = some (.getfield 422, 3) ∧ mc_cd 245 36 = some (.if_icmp .lt 5, 3) ∧ mc_cd 245 39 = some (.iconst 1, 1) ∧ mc_cd 245 40 = some (.istore_n 3, 1) ∧ mc_cd 245 41 = some (.iload_n 3, 1) := by decide +kernel
theorem c245_28 : mc_cd 245 28 = some (.ifCond .ne 13, 3) := cg245_28.1
theorem c245_31 : mc_cd 245 31 = some (.iload_n 1, 1) := cg245_28.2.1
theorem c245_32 : mc_cd 245 32 = some (.aload_n 0, 1) := cg245_28.2.2.1
theorem c245_33 : mc_cd 245 33 = some (.getfield 422, 3) := cg245_28.2.2.2.1
theorem c245_36 : mc_cd 245 36 = some (.if_icmp .lt 5, 3) := cg245_28.2.2.2.2.1
theorem c245_39 : mc_cd 245 39 = some (.iconst 1, 1) := cg245_28.2.2.2.2.2.1
theorem c245_40 : mc_cd 245 40 = some (.istore_n 3, 1) := cg245_28.2.2.2.2.2.2.1
theorem c245_41 : mc_cd 245 41 = some (.iload_n 3, 1) := cg245_28.2.2.2.2.2.2.2
theorem cg245_42 : mc_cd 245 42 = some (.ifCond .le 9, 3) ∧ mc_cd 245 45 = some (.aload_n 0, 1) ∧ mc_cd 245 46 = some (.iload_n 3, 1) ∧ mc_cd 245 47 = some (.invokevirtual 54, 3) ∧ mc_cd 245 50 = some (.ireturn, 1) ∧ mc_cd 245 51 = some (.aload_n 0, 1) ∧ mc_cd 245 52 = some (.aload_n 0, 1) ∧ mc_cd 245 53 = some (.getfield 42, 3) := by decide +kernel
theorem c245_42 : mc_cd 245 42 = some (.ifCond .le 9, 3) := cg245_42.1
theorem c245_45 : mc_cd 245 45 = some (.aload_n 0, 1) := cg245_42.2.1
theorem c245_46 : mc_cd 245 46 = some (.iload_n 3, 1) := cg245_42.2.2.1
theorem c245_47 : mc_cd 245 47 = some (.invokevirtual 54, 3) := cg245_42.2.2.2.1
theorem c245_50 : mc_cd 245 50 = some (.ireturn, 1) := cg245_42.2.2.2.2.1
theorem c245_51 : mc_cd 245 51 = some (.aload_n 0, 1) := cg245_42.2.2.2.2.2.1
theorem c245_52 : mc_cd 245 52 = some (.aload_n 0, 1) := cg245_42.2.2.2.2.2.2.1
theorem c245_53 : mc_cd 245 53 = some (.getfield 42, 3) := cg245_42.2.2.2.2.2.2.2
theorem cg245_56 : mc_cd 245 56 = some (.iload_n 1, 1) ∧ mc_cd 245 57 = some (.iaload, 1) ∧ mc_cd 245 58 = some (.invokevirtual 425, 3) ∧ mc_cd 245 61 = some (.aload_n 0, 1) ∧ mc_cd 245 62 = some (.aload_n 0, 1) ∧ mc_cd 245 63 = some (.getfield 39, 3) ∧ mc_cd 245 66 = some (.iload_n 2, 1) ∧ mc_cd 245 67 = some (.iaload, 1) := by decide +kernel
theorem c245_56 : mc_cd 245 56 = some (.iload_n 1, 1) := cg245_56.1
theorem c245_57 : mc_cd 245 57 = some (.iaload, 1) := cg245_56.2.1
theorem c245_58 : mc_cd 245 58 = some (.invokevirtual 425, 3) := cg245_56.2.2.1
theorem c245_61 : mc_cd 245 61 = some (.aload_n 0, 1) := cg245_56.2.2.2.1
theorem c245_62 : mc_cd 245 62 = some (.aload_n 0, 1) := cg245_56.2.2.2.2.1
theorem c245_63 : mc_cd 245 63 = some (.getfield 39, 3) := cg245_56.2.2.2.2.2.1
theorem c245_66 : mc_cd 245 66 = some (.iload_n 2, 1) := cg245_56.2.2.2.2.2.2.1
theorem c245_67 : mc_cd 245 67 = some (.iaload, 1) := cg245_56.2.2.2.2.2.2.2
theorem cg245_68 : mc_cd 245 68 = some (.invokevirtual 58, 3) ∧ mc_cd 245 71 = some (.ireturn, 1) := by decide +kernel
theorem c245_68 : mc_cd 245 68 = some (.invokevirtual 58, 3) := cg245_68.1
theorem c245_71 : mc_cd 245 71 = some (.ireturn, 1) := cg245_68.2
/-! StrikeAwakeModel.lotWeight()J -/
theorem e248 : wq_en 248 = some (9, 4, false, some FieldType.long) := rfl
theorem cg248_0 : mc_cd 248 0 = some (.lconst 1, 1) ∧ mc_cd 248 1 = some (.lstore_n 1, 1) ∧ mc_cd 248 2 = some (.iconst 0, 1) ∧ mc_cd 248 3 = some (.istore_n 3, 1) ∧ mc_cd 248 4 = some (.iload_n 3, 1) ∧ mc_cd 248 5 = some (.aload_n 0, 1) ∧ mc_cd 248 6 = some (.getfield 337, 3) ∧ mc_cd 248 9 = some (.getfield 188, 3) := by decide +kernel
theorem c248_0 : mc_cd 248 0 = some (.lconst 1, 1) := cg248_0.1
theorem c248_1 : mc_cd 248 1 = some (.lstore_n 1, 1) := cg248_0.2.1
theorem c248_2 : mc_cd 248 2 = some (.iconst 0, 1) := cg248_0.2.2.1
theorem c248_3 : mc_cd 248 3 = some (.istore_n 3, 1) := cg248_0.2.2.2.1
theorem c248_4 : mc_cd 248 4 = some (.iload_n 3, 1) := cg248_0.2.2.2.2.1
theorem c248_5 : mc_cd 248 5 = some (.aload_n 0, 1) := cg248_0.2.2.2.2.2.1
theorem c248_6 : mc_cd 248 6 = some (.getfield 337, 3) := cg248_0.2.2.2.2.2.2.1
theorem c248_9 : mc_cd 248 9 = some (.getfield 188, 3) := cg248_0.2.2.2.2.2.2.2
theorem cg248_12 : mc_cd 248 12 = some (.if_icmp .ge 24, 3) ∧ mc_cd 248 15 = some (.lload_n 1, 1) ∧ mc_cd 248 16 = some (.aload_n 0, 1) ∧ mc_cd 248 17 = some (.iload_n 3, 1) ∧ mc_cd 248 18 = some (.aload_n 0, 1) ∧ mc_cd 248 19 = some (.getfield 39, 3) ∧ mc_cd 248 22 = some (.iload_n 3, 1) ∧ mc_cd 248 23 = some (.iaload, 1) := by decide +kernel
theorem c248_12 : mc_cd 248 12 = some (.if_icmp .ge 24, 3) := cg248_12.1
theorem c248_15 : mc_cd 248 15 = some (.lload_n 1, 1) := cg248_12.2.1
theorem c248_16 : mc_cd 248 16 = some (.aload_n 0, 1) := cg248_12.2.2.1
theorem c248_17 : mc_cd 248 17 = some (.iload_n 3, 1) := cg248_12.2.2.2.1
theorem c248_18 : mc_cd 248 18 = some (.aload_n 0, 1) := cg248_12.2.2.2.2.1
theorem c248_19 : mc_cd 248 19 = some (.getfield 39, 3) := cg248_12.2.2.2.2.2.1
theorem c248_22 : mc_cd 248 22 = some (.iload_n 3, 1) := cg248_12.2.2.2.2.2.2.1
theorem c248_23 : mc_cd 248 23 = some (.iaload, 1) := cg248_12.2.2.2.2.2.2.2
theorem cg248_24 : mc_cd 248 24 = some (.invokevirtual 370, 3) ∧ mc_cd 248 27 = some (.i2l, 1) ∧ mc_cd 248 28 = some (.lmul, 1) ∧ mc_cd 248 29 = some (.lstore_n 1, 1) ∧ mc_cd 248 30 = some (.iinc 3 1, 3) ∧ mc_cd 248 33 = some (.goto (-29), 3) ∧ mc_cd 248 36 = some (.lload_n 1, 1) ∧ mc_cd 248 37 = some (.lreturn, 1) := by decide +kernel
theorem c248_24 : mc_cd 248 24 = some (.invokevirtual 370, 3) := cg248_24.1
theorem c248_27 : mc_cd 248 27 = some (.i2l, 1) := cg248_24.2.1
theorem c248_28 : mc_cd 248 28 = some (.lmul, 1) := cg248_24.2.2.1
theorem c248_29 : mc_cd 248 29 = some (.lstore_n 1, 1) := cg248_24.2.2.2.1
theorem c248_30 : mc_cd 248 30 = some (.iinc 3 1, 3) := cg248_24.2.2.2.2.1
theorem c248_33 : mc_cd 248 33 = some (.goto (-29), 3) := cg248_24.2.2.2.2.2.1
theorem c248_36 : mc_cd 248 36 = some (.lload_n 1, 1) := cg248_24.2.2.2.2.2.2.1
theorem c248_37 : mc_cd 248 37 = some (.lreturn, 1) := cg248_24.2.2.2.2.2.2.2
abbrev q_248 (r0 : Nat) (pp : Nat) (T : wq_T) (H : wq_H) : Option Value → wq_T → wq_H → Prop := fun r T' H' => T = T' ∧ H = H' ∧ ∃ z : Int, some (vL z) = r ∧ (1 ≤ z ∧ z ≤ 1000000)
set_option maxHeartbeats 4000000 in
theorem s_248 {kt : Nat → Option mc_E} {T : wq_T} {H : wq_H} {r0 : Nat} {pp : Nat} (hW : WT T H) (g0 : T.2.2.2 r0 = some 42) (qpp : H r0 3 = (pp : Int)) (gpp : T.2.2.2 pp = some 54) : wpc kt 2 248 [.ref r0] T H (q_248 r0 pp T H) := by
  refine wp_enter e248 (Nat.le_of_ble_eq_true rfl) rfl ?_
  show wp _ _ 248 0 [(0, .ref r0)] [] _ H _
  refine wp_of e248 c248_0 (rw_lconst (pc' := 1) (z := 1) rfl rfl ?_)
  refine wp_of e248 c248_1 (rw_lstore_n (pc' := 2) (z := 1) (L' := [(1, vL 1), (0, .ref r0)]) rfl rfl rfl ?_)
  refine wp_of e248 c248_2 (rw_iconst (pc' := 3) rfl ?_)
  refine wp_of e248 c248_3 (rw_istore_n (pc' := 4) (z := 0) (L' := [(3, vI 0), (1, vL 1), (0, .ref r0)]) rfl rfl rfl ?_)
  have b136858 : 0 ≤ H pp 3 ∧ H pp 3 ≤ 6 := hW.box gpp (n := 27) rfl (by decide) rfl
  have lp136853 : ∀ (n136854 : Nat) (v136856 : Int) (v136857 : Int), (0 ≤ v136856 ∧ v136856 ≤ 6) → (1 ≤ v136857 ∧ v136857 ≤ 1000000) → (v136856 ≤ H pp 3) → (1 ≤ v136857 ∧ v136857 ≤ w10 (v136856).toNat) → (6 - v136856).toNat = n136854 → wp kt 1 248 4 [(3, vI v136856), (1, vL v136857), (0, .ref r0)] [] T H (q_248 r0 pp T H) := by
    intro n136854
    induction n136854 using Nat.strongRecOn with
    | _ n136854 ih136855 =>
      intro v136856 v136857 b136861 b136862 x136863 x136864 m136865
      have hb := w10_b (n := (v136856).toNat) (by omega)
      refine wp_of e248 c248_4 (rw_iload_n (pc' := 5) (z := v136856) rfl rfl ?_)
      refine wp_of e248 c248_5 (rw_aload_n (pc' := 6) (v := .ref r0) rfl rfl rfl ?_)
      refine wp_of e248 c248_6 (xg_K (pc' := 9) lf_9_337 hW g0 sh_42 (by decide) (by decide) rfl qpp rfl ?_)
      refine wp_of e248 c248_9 (xg_I (pc' := 12) lf_9_188 hW gpp sh_54 (by decide) (by decide) ty_54_3 rfl rfl (fun b136866 b136867 => ?_))
      refine wp_of e248 c248_12 (rw_icmp_ge (p1 := 36) (p2 := 15) (by decide) rfl ⟨by omega, by omega⟩ ⟨by omega, by omega⟩ (fun c136868 => ?_) (fun c136868 => ?_))
      · refine wp_of e248 c248_36 (rw_lload_n (pc' := 37) (z := v136857) rfl rfl ?_)
        exact wp_lreturn e248 c248_37 rfl ⟨rfl, rfl, v136857, rfl, ⟨by omega, by omega⟩⟩
      · refine wp_of e248 c248_15 (rw_lload_n (pc' := 16) (z := v136857) rfl rfl ?_)
        refine wp_of e248 c248_16 (rw_aload_n (pc' := 17) (v := .ref r0) rfl rfl rfl ?_)
        refine wp_of e248 c248_17 (rw_iload_n (pc' := 18) (z := v136856) rfl rfl ?_)
        refine wp_of e248 c248_18 (rw_aload_n (pc' := 19) (v := .ref r0) rfl rfl rfl ?_)
        refine wp_of e248 c248_19 (xg_R (pc' := 22) lf_9_39 hW g0 sh_42 (by decide) (by decide) ty_42_27 rfl rfl (fun r136869 q136870 g136871 => ?_))
        refine wp_of e248 c248_22 (rw_iload_n (pc' := 23) (z := v136856) rfl rfl ?_)
        refine wp_of e248 c248_23 (xa_I (so := 0) (pc' := 24) hW g136871 sh_51 (by decide) (ty_51 _) (by omega) (by omega) rfl (fun b136872 b136873 => ?_))
        refine wp_of e248 c248_24 (xc_V (pc' := 27) (r := r0) (as := [vI v136856, vI (H r136869 (v136856.toNat))]) (st := [vL v136857]) (lm_9_370) rfl rfl (Nat.le_of_ble_eq_true rfl) hW g0 sh_42 (by decide) rfl (by decide) (s_216 hW g0 ⟨by omega, by omega⟩ ⟨by omega, by omega⟩ qpp gpp) (fun R136874 T136875 H136876 p136877 => ?_))
        obtain ⟨e136878, e136880, z136881, e136879, b136882⟩ := p136877
        subst e136878
        subst e136879
        subst e136880
        show wp _ _ 248 27 [(3, vI v136856), (1, vL v136857), (0, .ref r0)] [vI z136881, vL v136857] _ H _
        refine wp_of e248 c248_27 (rw_i2l (pc' := 28) rfl ⟨by omega, by omega⟩ ?_)
        refine wp_of e248 c248_28 (rw_lmul (pc' := 29) rfl ?_)
        obtain ⟨v136883, e136884⟩ : ∃ x : Int, x = v136857 * z136881 := ⟨_, rfl⟩
        rw [← e136884]
        have b136885 : 0 ≤ v136883 ∧ v136883 ≤ 10000000 := by
          rw [e136884]
          exact wl_mul_b (a := 1000000) (b := 10) ⟨by omega, by omega⟩ ⟨by omega, by omega⟩
        refine wp_of e248 c248_29 (rw_lstore_n (pc' := 30) (z := v136883) (L' := [(1, vL v136883), (3, vI v136856), (0, .ref r0)]) rfl rfl rfl ?_)
        refine wp_of e248 c248_30 (rw_iinc (pc' := 33) (z := v136856) (L' := [(3, vI (v136856 + 1)), (1, vL v136883), (0, .ref r0)]) rfl rfl rfl rfl ?_)
        refine wp_of e248 c248_33 (rw_goto (p1 := 4) (by decide) ?_)
        have hy : 1 ≤ v136883 ∧ v136883 ≤ w10 ((v136856 + 1)).toNat := by
          refine w10_s (by assumption) ?_ (by assumption) (by omega)
          exact ⟨by omega, by omega⟩
        have hz := w10_b (n := ((v136856 + 1)).toNat) (by omega)
        exact wp_lc (ks := [3, 1, 0]) (wl_c rfl (wl_c rfl (wl_c rfl wl_n))) rfl (by decide) (ih136855 _ (by omega) (v136856 + 1) v136883 ⟨by omega, by omega⟩ ⟨by omega, by omega⟩ (by omega) (by assumption) rfl)
  exact wp_lc (ks := [3, 1, 0]) (wl_c rfl (wl_c rfl (wl_c rfl wl_n))) rfl (by decide) (lp136853 _ 0 1 ⟨by omega, by omega⟩ ⟨by omega, by omega⟩ (by omega) (by decide) rfl)
/-! StrikeAwakeModel.weighs(II)J -/
theorem e247 : wq_en 247 = some (9, 6, false, some FieldType.long) := rfl
theorem cg247_0 : mc_cd 247 0 = some (.lconst 0, 1) ∧ mc_cd 247 1 = some (.lstore_n 3, 1) ∧ mc_cd 247 2 = some (.iconst 0, 1) ∧ mc_cd 247 3 = some (.istore 5, 2) ∧ mc_cd 247 5 = some (.iload 5, 2) ∧ mc_cd 247 7 = some (.aload_n 0, 1) ∧ mc_cd 247 8 = some (.getfield 422, 3) ∧ mc_cd 247 11 = some (.if_icmp .ge 55, 3) := by decide +kernel
theorem c247_0 : mc_cd 247 0 = some (.lconst 0, 1) := cg247_0.1
theorem c247_1 : mc_cd 247 1 = some (.lstore_n 3, 1) := cg247_0.2.1
theorem c247_2 : mc_cd 247 2 = some (.iconst 0, 1) := cg247_0.2.2.1
theorem c247_3 : mc_cd 247 3 = some (.istore 5, 2) := cg247_0.2.2.2.1
theorem c247_5 : mc_cd 247 5 = some (.iload 5, 2) := cg247_0.2.2.2.2.1
theorem c247_7 : mc_cd 247 7 = some (.aload_n 0, 1) := cg247_0.2.2.2.2.2.1
theorem c247_8 : mc_cd 247 8 = some (.getfield 422, 3) := cg247_0.2.2.2.2.2.2.1
theorem c247_11 : mc_cd 247 11 = some (.if_icmp .ge 55, 3) := cg247_0.2.2.2.2.2.2.2
theorem cg247_14 : mc_cd 247 14 = some (.aload_n 0, 1) ∧ mc_cd 247 15 = some (.aload_n 0, 1) ∧ mc_cd 247 16 = some (.getfield 42, 3) ∧ mc_cd 247 19 = some (.iload 5, 2) ∧ mc_cd 247 21 = some (.iaload, 1) ∧ mc_cd 247 22 = some (.invokevirtual 425, 3) ∧ mc_cd 247 25 = some (.iload_n 1, 1) ∧ mc_cd 247 26 = some (.iconst (-1), 1) := by decide +kernel
theorem c247_14 : mc_cd 247 14 = some (.aload_n 0, 1) := cg247_14.1
theorem c247_15 : mc_cd 247 15 = some (.aload_n 0, 1) := cg247_14.2.1
theorem c247_16 : mc_cd 247 16 = some (.getfield 42, 3) := cg247_14.2.2.1
theorem c247_19 : mc_cd 247 19 = some (.iload 5, 2) := cg247_14.2.2.2.1
theorem c247_21 : mc_cd 247 21 = some (.iaload, 1) := cg247_14.2.2.2.2.1
theorem c247_22 : mc_cd 247 22 = some (.invokevirtual 425, 3) := cg247_14.2.2.2.2.2.1
theorem c247_25 : mc_cd 247 25 = some (.iload_n 1, 1) := cg247_14.2.2.2.2.2.2.1
theorem c247_26 : mc_cd 247 26 = some (.iconst (-1), 1) := cg247_14.2.2.2.2.2.2.2
theorem cg247_27 : mc_cd 247 27 = some (.if_icmp .eq 26, 3) ∧ mc_cd 247 30 = some (.aload_n 0, 1) ∧ mc_cd 247 31 = some (.getfield 33, 3) ∧ mc_cd 247 34 = some (.bipush 40, 2) ∧ mc_cd 247 36 = some (.iload_n 1, 1) ∧ mc_cd 247 37 = some (.imul, 1) ∧ mc_cd 247 38 = some (.aload_n 0, 1) ∧ mc_cd 247 39 = some (.getfield 39, 3) := by decide +kernel
theorem c247_27 : mc_cd 247 27 = some (.if_icmp .eq 26, 3) := cg247_27.1
theorem c247_30 : mc_cd 247 30 = some (.aload_n 0, 1) := cg247_27.2.1
theorem c247_31 : mc_cd 247 31 = some (.getfield 33, 3) := cg247_27.2.2.1
theorem c247_34 : mc_cd 247 34 = some (.bipush 40, 2) := cg247_27.2.2.2.1
theorem c247_36 : mc_cd 247 36 = some (.iload_n 1, 1) := cg247_27.2.2.2.2.1
theorem c247_37 : mc_cd 247 37 = some (.imul, 1) := cg247_27.2.2.2.2.2.1
theorem c247_38 : mc_cd 247 38 = some (.aload_n 0, 1) := cg247_27.2.2.2.2.2.2.1
theorem c247_39 : mc_cd 247 39 = some (.getfield 39, 3) := cg247_27.2.2.2.2.2.2.2
theorem cg247_42 : mc_cd 247 42 = some (.iload_n 1, 1) ∧ mc_cd 247 43 = some (.iaload, 1) ∧ mc_cd 247 44 = some (.iadd, 1) ∧ mc_cd 247 45 = some (.iaload, 1) ∧ mc_cd 247 46 = some (.iload_n 2, 1) ∧ mc_cd 247 47 = some (.invokestatic 346, 3) ∧ mc_cd 247 50 = some (.ifCond .eq 10, 3) ∧ mc_cd 247 53 = some (.lload_n 3, 1) := by decide +kernel
theorem c247_42 : mc_cd 247 42 = some (.iload_n 1, 1) := cg247_42.1
theorem c247_43 : mc_cd 247 43 = some (.iaload, 1) := cg247_42.2.1
theorem c247_44 : mc_cd 247 44 = some (.iadd, 1) := cg247_42.2.2.1
theorem c247_45 : mc_cd 247 45 = some (.iaload, 1) := cg247_42.2.2.2.1
theorem c247_46 : mc_cd 247 46 = some (.iload_n 2, 1) := cg247_42.2.2.2.2.1
theorem c247_47 : mc_cd 247 47 = some (.invokestatic 346, 3) := cg247_42.2.2.2.2.2.1
theorem c247_50 : mc_cd 247 50 = some (.ifCond .eq 10, 3) := cg247_42.2.2.2.2.2.2.1
theorem c247_53 : mc_cd 247 53 = some (.lload_n 3, 1) := cg247_42.2.2.2.2.2.2.2
theorem cg247_54 : mc_cd 247 54 = some (.aload_n 0, 1) ∧ mc_cd 247 55 = some (.invokevirtual 437, 3) ∧ mc_cd 247 58 = some (.ladd, 1) ∧ mc_cd 247 59 = some (.lstore_n 3, 1) ∧ mc_cd 247 60 = some (.iinc 5 1, 3) ∧ mc_cd 247 63 = some (.goto (-58), 3) ∧ mc_cd 247 66 = some (.lload_n 3, 1) ∧ mc_cd 247 67 = some (.lreturn, 1) := by decide +kernel
theorem c247_54 : mc_cd 247 54 = some (.aload_n 0, 1) := cg247_54.1
theorem c247_55 : mc_cd 247 55 = some (.invokevirtual 437, 3) := cg247_54.2.1
theorem c247_58 : mc_cd 247 58 = some (.ladd, 1) := cg247_54.2.2.1
theorem c247_59 : mc_cd 247 59 = some (.lstore_n 3, 1) := cg247_54.2.2.2.1
theorem c247_60 : mc_cd 247 60 = some (.iinc 5 1, 3) := cg247_54.2.2.2.2.1
theorem c247_63 : mc_cd 247 63 = some (.goto (-58), 3) := cg247_54.2.2.2.2.2.1
theorem c247_66 : mc_cd 247 66 = some (.lload_n 3, 1) := cg247_54.2.2.2.2.2.2.1
theorem c247_67 : mc_cd 247 67 = some (.lreturn, 1) := cg247_54.2.2.2.2.2.2.2
abbrev q_247 (r0 : Nat) (a1 : Int) (a2 : Int) (pp : Nat) (T : wq_T) (H : wq_H) : Option Value → wq_T → wq_H → Prop := fun r T' H' => T = T' ∧ WT T H' ∧ wfr [(51, 999)] T H H' ∧ ∃ z : Int, some (vL z) = r ∧ (0 ≤ z ∧ z ≤ 20000000000) ∧ (a1 ≠ -1 ∨ H r0 29 ≤ z)
set_option maxHeartbeats 4000000 in
theorem s_247 {kt : Nat → Option mc_E} {T : wq_T} {H : wq_H} {r0 : Nat} {a1 : Int} {a2 : Int} {pp : Nat} (hW : WT T H) (g0 : T.2.2.2 r0 = some 42) (i1 : (-1) ≤ a1 ∧ a1 ≤ 5) (i2 : (-2147483648) ≤ a2 ∧ a2 ≤ 2147483647) (qpp : H r0 3 = (pp : Int)) (gpp : T.2.2.2 pp = some 54) (p0 : H r0 29 = 0 ∨ 0 < wLM H r0) : wpc kt 3 247 [.ref r0, vI a1, vI a2] T H (q_247 r0 a1 a2 pp T H) := by
  refine wp_enter e247 (Nat.le_of_ble_eq_true rfl) rfl ?_
  have f0 : wfr [(51, 999)] T H H := wfr.rf
  show wp _ _ 247 0 [(0, .ref r0), (1, vI a1), (2, vI a2)] [] _ H _
  have b137463 : 0 ≤ H r0 29 ∧ H r0 29 ≤ 20000 := hW.box g0 (n := 33) rfl (by decide) rfl
  refine wp_of e247 c247_0 (rw_lconst (pc' := 1) (z := 0) rfl rfl ?_)
  refine wp_of e247 c247_1 (rw_lstore_n (pc' := 2) (z := 0) (L' := [(3, vL 0), (0, .ref r0), (1, vI a1), (2, vI a2)]) rfl rfl rfl ?_)
  refine wp_of e247 c247_2 (rw_iconst (pc' := 3) rfl ?_)
  refine wp_of e247 c247_3 (rw_istore (pc' := 5) (z := 0) (L' := [(5, vI 0), (3, vL 0), (0, .ref r0), (1, vI a1), (2, vI a2)]) rfl rfl rfl ?_)
  have lp137976 : ∀ (n137977 : Nat) (v137979 : Int) (v137980 : Int) (H137981 : wq_H), WT T H137981 → wfr [(51, 999)] T H H137981 → (0 ≤ v137979 ∧ v137979 ≤ 20000) → (0 ≤ v137980 ∧ v137980 ≤ 20000000000) → (v137979 ≤ H137981 r0 29) → (v137980 ≤ 1000000 * v137979) → (a1 ≠ -1 ∨ v137979 ≤ v137980) → (20000 - v137979).toNat = n137977 → wp kt 2 247 5 [(5, vI v137979), (3, vL v137980), (0, .ref r0), (1, vI a1), (2, vI a2)] [] T H137981 (q_247 r0 a1 a2 pp T H) := by
    intro n137977
    induction n137977 using Nat.strongRecOn with
    | _ n137977 ih137978 =>
      intro v137979 v137980 H137981 w137982 f137983 b137984 b137985 x137986 x137987 x137988 m137989
      have f137990 := f0.tr f137983 rfl
      have k137991 : H137981 r0 29 = H r0 29 := (f137983 r0 29 _ g0 rfl)
      refine wp_of e247 c247_5 (rw_iload (pc' := 7) (z := v137979) rfl rfl ?_)
      refine wp_of e247 c247_7 (rw_aload_n (pc' := 8) (v := .ref r0) rfl rfl rfl ?_)
      refine wp_of e247 c247_8 (xg_I (pc' := 11) lf_9_422 w137982 g0 sh_42 (by decide) (by decide) ty_42_29 rfl rfl (fun b137992 b137993 => ?_))
      refine wp_of e247 c247_11 (rw_icmp_ge (p1 := 66) (p2 := 14) (by decide) rfl ⟨by omega, by omega⟩ ⟨by omega, by omega⟩ (fun c137994 => ?_) (fun c137994 => ?_))
      · refine wp_of e247 c247_66 (rw_lload_n (pc' := 67) (z := v137980) rfl rfl ?_)
        exact wp_lreturn e247 c247_67 rfl ⟨rfl, w137982, f137990, v137980, rfl, ⟨by omega, by omega⟩, by omega⟩
      · refine wp_of e247 c247_14 (rw_aload_n (pc' := 15) (v := .ref r0) rfl rfl rfl ?_)
        refine wp_of e247 c247_15 (rw_aload_n (pc' := 16) (v := .ref r0) rfl rfl rfl ?_)
        refine wp_of e247 c247_16 (xg_R (pc' := 19) lf_9_42 w137982 g0 sh_42 (by decide) (by decide) ty_42_30 rfl rfl (fun r137995 q137996 g137997 => ?_))
        refine wp_of e247 c247_19 (rw_iload (pc' := 21) (z := v137979) rfl rfl ?_)
        refine wp_of e247 c247_21 (xa_I (so := 0) (pc' := 22) w137982 g137997 sh_52 (by decide) (ty_52 _) (by omega) (by omega) rfl (fun b137998 b137999 => ?_))
        have k138000 : wLM H137981 r0 = wLM H r0 := (wLM_fr hW g0 f137983 rfl)
        have k138001 : H137981 r0 3 = H r0 3 := (f137983 r0 3 _ g0 rfl)
        have q138002 : H137981 r0 3 = (pp : Int) := k138001.trans qpp
        refine wp_of e247 c247_22 (xc_V (pc' := 25) (r := r0) (as := [vI (H137981 r137995 (v137979.toNat))]) (st := []) (lm_9_425) rfl rfl (Nat.le_of_ble_eq_true rfl) w137982 g0 sh_42 (by decide) rfl (by decide) (s_243 w137982 g0 ⟨by omega, by omega⟩ q138002 gpp (by omega)) (fun R138003 T138004 H138005 p138006 => ?_))
        obtain ⟨e138007, w138009, f138010, e138008⟩ := p138006
        subst e138007
        subst e138008
        have f138011 := f137990.tr f138010 rfl
        have f138012 := f137983.tr f138010 rfl
        show wp _ _ 247 25 [(5, vI v137979), (3, vL v137980), (0, .ref r0), (1, vI a1), (2, vI a2)] [] _ H138005 _
        refine wp_of e247 c247_25 (rw_iload_n (pc' := 26) (z := a1) rfl rfl ?_)
        refine wp_of e247 c247_26 (rw_iconst (pc' := 27) rfl ?_)
        refine wp_of e247 c247_27 (rw_icmp_eq (p1 := 53) (p2 := 30) (by decide) rfl ⟨by omega, by omega⟩ ⟨by omega, by omega⟩ (fun c138013 => ?_) (fun c138013 => ?_))
        · refine wp_of e247 c247_53 (rw_lload_n (pc' := 54) (z := v137980) rfl rfl ?_)
          refine wp_of e247 c247_54 (rw_aload_n (pc' := 55) (v := .ref r0) rfl rfl rfl ?_)
          have k138014 : H138005 r0 3 = H137981 r0 3 := (f138010 r0 3 _ g0 rfl)
          have q138015 : H138005 r0 3 = (pp : Int) := k138014.trans q138002
          refine wp_of e247 c247_55 (xc_V (pc' := 58) (r := r0) (as := []) (st := [vL v137980]) (lm_9_437) rfl rfl (Nat.le_of_ble_eq_true rfl) w138009 g0 sh_42 (by decide) rfl (by decide) (s_248 w138009 g0 q138015 gpp) (fun R138016 T138017 H138018 p138019 => ?_))
          obtain ⟨e138020, e138022, z138023, e138021, b138024⟩ := p138019
          subst e138020
          subst e138021
          subst e138022
          show wp _ _ 247 58 [(5, vI v137979), (3, vL v137980), (0, .ref r0), (1, vI a1), (2, vI a2)] [vL z138023, vL v137980] _ H138005 _
          refine wp_of e247 c247_58 (rw_ladd (pc' := 59) rfl ?_)
          refine wp_of e247 c247_59 (rw_lstore_n (pc' := 60) (z := v137980 + z138023) (L' := [(3, vL (v137980 + z138023)), (5, vI v137979), (0, .ref r0), (1, vI a1), (2, vI a2)]) rfl rfl rfl ?_)
          refine wp_of e247 c247_60 (rw_iinc (pc' := 63) (z := v137979) (L' := [(5, vI (v137979 + 1)), (3, vL (v137980 + z138023)), (0, .ref r0), (1, vI a1), (2, vI a2)]) rfl rfl rfl rfl ?_)
          refine wp_of e247 c247_63 (rw_goto (p1 := 5) (by decide) ?_)
          have k138025 : H138005 r0 29 = H137981 r0 29 := (f138010 r0 29 _ g0 rfl)
          exact wp_lc (ks := [5, 3, 0, 1, 2]) (wl_c rfl (wl_c rfl (wl_c rfl (wl_c rfl (wl_c rfl wl_n))))) rfl (by decide) (ih137978 _ (by omega) (v137979 + 1) (v137980 + z138023) H138005 w138009 f138012 ⟨by omega, by omega⟩ ⟨by omega, by omega⟩ (by omega) (by omega) (by omega) rfl)
        · refine wp_of e247 c247_30 (rw_aload_n (pc' := 31) (v := .ref r0) rfl rfl rfl ?_)
          refine wp_of e247 c247_31 (xg_R (pc' := 34) lf_9_33 w138009 g0 sh_42 (by decide) (by decide) ty_42_25 rfl rfl (fun r138026 q138027 g138028 => ?_))
          refine wp_of e247 c247_34 (rw_bipush (pc' := 36) (z := 40) rfl (by decide) ?_)
          refine wp_of e247 c247_36 (rw_iload_n (pc' := 37) (z := a1) rfl rfl ?_)
          refine wp_of e247 c247_37 (rw_imul (pc' := 38) rfl ?_)
          refine wp_of e247 c247_38 (rw_aload_n (pc' := 39) (v := .ref r0) rfl rfl rfl ?_)
          refine wp_of e247 c247_39 (xg_R (pc' := 42) lf_9_39 w138009 g0 sh_42 (by decide) (by decide) ty_42_27 rfl rfl (fun r138029 q138030 g138031 => ?_))
          refine wp_of e247 c247_42 (rw_iload_n (pc' := 43) (z := a1) rfl rfl ?_)
          refine wp_of e247 c247_43 (xa_I (so := 0) (pc' := 44) w138009 g138031 sh_51 (by decide) (ty_51 _) (by omega) (by omega) rfl (fun b138032 b138033 => ?_))
          refine wp_of e247 c247_44 (rw_iadd (pc' := 45) rfl ?_)
          refine wp_of e247 c247_45 (xa_I (so := 0) (pc' := 46) w138009 g138028 sh_49 (by decide) (ty_49 _) (by omega) (by omega) rfl (fun b138034 b138035 => ?_))
          refine wp_of e247 c247_46 (rw_iload_n (pc' := 47) (z := a2) rfl rfl ?_)
          refine wp_of e247 c247_47 (xc_S (pc' := 50) (as := [vI (H138005 r138026 (((40 * a1) + (H138005 r138029 (a1.toNat))).toNat)), vI a2]) (st := []) (lm_9_346) rfl rfl (Nat.le_of_ble_eq_true rfl) rfl (by decide) (s_205 w138009 ⟨by omega, by omega⟩ ⟨by omega, by omega⟩) (fun R138036 T138037 H138038 p138039 => ?_))
          obtain ⟨e138040, e138042, z138043, e138041, b138044⟩ := p138039
          subst e138040
          subst e138041
          subst e138042
          show wp _ _ 247 50 [(5, vI v137979), (3, vL v137980), (0, .ref r0), (1, vI a1), (2, vI a2)] [vI z138043] _ H138005 _
          refine wp_of e247 c247_50 (rw_if_eq (p1 := 60) (p2 := 53) (by decide) rfl ⟨by omega, by omega⟩ (fun c138045 => ?_) (fun c138045 => ?_))
          · refine wp_of e247 c247_60 (rw_iinc (pc' := 63) (z := v137979) (L' := [(5, vI (v137979 + 1)), (3, vL v137980), (0, .ref r0), (1, vI a1), (2, vI a2)]) rfl rfl rfl rfl ?_)
            refine wp_of e247 c247_63 (rw_goto (p1 := 5) (by decide) ?_)
            have k138046 : H138005 r0 29 = H137981 r0 29 := (f138010 r0 29 _ g0 rfl)
            exact wp_lc (ks := [5, 3, 0, 1, 2]) (wl_c rfl (wl_c rfl (wl_c rfl (wl_c rfl (wl_c rfl wl_n))))) rfl (by decide) (ih137978 _ (by omega) (v137979 + 1) v137980 H138005 w138009 f138012 ⟨by omega, by omega⟩ ⟨by omega, by omega⟩ (by omega) (by omega) (by omega) rfl)
          · refine wp_of e247 c247_53 (rw_lload_n (pc' := 54) (z := v137980) rfl rfl ?_)
            refine wp_of e247 c247_54 (rw_aload_n (pc' := 55) (v := .ref r0) rfl rfl rfl ?_)
            have k138047 : H138005 r0 3 = H137981 r0 3 := (f138010 r0 3 _ g0 rfl)
            have q138048 : H138005 r0 3 = (pp : Int) := k138047.trans q138002
            refine wp_of e247 c247_55 (xc_V (pc' := 58) (r := r0) (as := []) (st := [vL v137980]) (lm_9_437) rfl rfl (Nat.le_of_ble_eq_true rfl) w138009 g0 sh_42 (by decide) rfl (by decide) (s_248 w138009 g0 q138048 gpp) (fun R138049 T138050 H138051 p138052 => ?_))
            obtain ⟨e138053, e138055, z138056, e138054, b138057⟩ := p138052
            subst e138053
            subst e138054
            subst e138055
            show wp _ _ 247 58 [(5, vI v137979), (3, vL v137980), (0, .ref r0), (1, vI a1), (2, vI a2)] [vL z138056, vL v137980] _ H138005 _
            refine wp_of e247 c247_58 (rw_ladd (pc' := 59) rfl ?_)
            refine wp_of e247 c247_59 (rw_lstore_n (pc' := 60) (z := v137980 + z138056) (L' := [(3, vL (v137980 + z138056)), (5, vI v137979), (0, .ref r0), (1, vI a1), (2, vI a2)]) rfl rfl rfl ?_)
            refine wp_of e247 c247_60 (rw_iinc (pc' := 63) (z := v137979) (L' := [(5, vI (v137979 + 1)), (3, vL (v137980 + z138056)), (0, .ref r0), (1, vI a1), (2, vI a2)]) rfl rfl rfl rfl ?_)
            refine wp_of e247 c247_63 (rw_goto (p1 := 5) (by decide) ?_)
            have k138058 : H138005 r0 29 = H137981 r0 29 := (f138010 r0 29 _ g0 rfl)
            exact wp_lc (ks := [5, 3, 0, 1, 2]) (wl_c rfl (wl_c rfl (wl_c rfl (wl_c rfl (wl_c rfl wl_n))))) rfl (by decide) (ih137978 _ (by omega) (v137979 + 1) (v137980 + z138056) H138005 w138009 f138012 ⟨by omega, by omega⟩ ⟨by omega, by omega⟩ (by omega) (by omega) (by omega) rfl)
  exact wp_lc (ks := [5, 3, 0, 1, 2]) (wl_c rfl (wl_c rfl (wl_c rfl (wl_c rfl (wl_c rfl wl_n))))) rfl (by decide) (lp137976 _ 0 0 H hW wfr.rf ⟨by omega, by omega⟩ ⟨by omega, by omega⟩ (by omega) (by omega) (by omega) rfl)
/-! StrikeAwakeModel.weights()J -/
theorem e246 : wq_en 246 = some (9, 2, false, some FieldType.long) := rfl
theorem cg246_0 : mc_cd 246 0 = some (.aload_n 0, 1) ∧ mc_cd 246 1 = some (.iconst 0, 1) ∧ mc_cd 246 2 = some (.putfield 48, 3) ∧ mc_cd 246 5 = some (.aload_n 0, 1) ∧ mc_cd 246 6 = some (.aload_n 0, 1) ∧ mc_cd 246 7 = some (.getfield 337, 3) ∧ mc_cd 246 10 = some (.ifnull 7, 3) ∧ mc_cd 246 13 = some (.iconst 1, 1) := by decide +kernel
theorem c246_0 : mc_cd 246 0 = some (.aload_n 0, 1) := cg246_0.1
theorem c246_1 : mc_cd 246 1 = some (.iconst 0, 1) := cg246_0.2.1
theorem c246_2 : mc_cd 246 2 = some (.putfield 48, 3) := cg246_0.2.2.1
theorem c246_5 : mc_cd 246 5 = some (.aload_n 0, 1) := cg246_0.2.2.2.1
theorem c246_6 : mc_cd 246 6 = some (.aload_n 0, 1) := cg246_0.2.2.2.2.1
theorem c246_7 : mc_cd 246 7 = some (.getfield 337, 3) := cg246_0.2.2.2.2.2.1
theorem c246_10 : mc_cd 246 10 = some (.ifnull 7, 3) := cg246_0.2.2.2.2.2.2.1
theorem c246_13 : mc_cd 246 13 = some (.iconst 1, 1) := cg246_0.2.2.2.2.2.2.2
theorem cg246_14 : mc_cd 246 14 = some (.goto 4, 3) ∧ mc_cd 246 17 = some (.iconst 0, 1) ∧ mc_cd 246 18 = some (.invokevirtual 433, 3) ∧ mc_cd 246 21 = some (.istore_n 1, 1) ∧ mc_cd 246 22 = some (.iload_n 1, 1) ∧ mc_cd 246 23 = some (.ifCond .le 12, 3) ∧ mc_cd 246 26 = some (.aload_n 0, 1) ∧ mc_cd 246 27 = some (.iload_n 1, 1) := by decide +kernel
theorem c246_14 : mc_cd 246 14 = some (.goto 4, 3) := cg246_14.1
theorem c246_17 : mc_cd 246 17 = some (.iconst 0, 1) := cg246_14.2.1
theorem c246_18 : mc_cd 246 18 = some (.invokevirtual 433, 3) := cg246_14.2.2.1
theorem c246_21 : mc_cd 246 21 = some (.istore_n 1, 1) := cg246_14.2.2.2.1
theorem c246_22 : mc_cd 246 22 = some (.iload_n 1, 1) := cg246_14.2.2.2.2.1
theorem c246_23 : mc_cd 246 23 = some (.ifCond .le 12, 3) := cg246_14.2.2.2.2.2.1
theorem c246_26 : mc_cd 246 26 = some (.aload_n 0, 1) := cg246_14.2.2.2.2.2.2.1
theorem c246_27 : mc_cd 246 27 = some (.iload_n 1, 1) := cg246_14.2.2.2.2.2.2.2
theorem cg246_28 : mc_cd 246 28 = some (.invokevirtual 54, 3) ∧ mc_cd 246 31 = some (.i2l, 1) ∧ mc_cd 246 32 = some (.goto 13, 3) ∧ mc_cd 246 35 = some (.aload_n 0, 1) ∧ mc_cd 246 36 = some (.aload_n 0, 1) ∧ mc_cd 246 37 = some (.iconst (-1), 1) ∧ mc_cd 246 38 = some (.iconst 0, 1) ∧ mc_cd 246 39 = some (.invokevirtual 440, 3) := by decide +kernel
theorem c246_28 : mc_cd 246 28 = some (.invokevirtual 54, 3) := cg246_28.1
theorem c246_31 : mc_cd 246 31 = some (.i2l, 1) := cg246_28.2.1
theorem c246_32 : mc_cd 246 32 = some (.goto 13, 3) := cg246_28.2.2.1
theorem c246_35 : mc_cd 246 35 = some (.aload_n 0, 1) := cg246_28.2.2.2.1
theorem c246_36 : mc_cd 246 36 = some (.aload_n 0, 1) := cg246_28.2.2.2.2.1
theorem c246_37 : mc_cd 246 37 = some (.iconst (-1), 1) := cg246_28.2.2.2.2.2.1
theorem c246_38 : mc_cd 246 38 = some (.iconst 0, 1) := cg246_28.2.2.2.2.2.2.1
theorem c246_39 : mc_cd 246 39 = some (.invokevirtual 440, 3) := cg246_28.2.2.2.2.2.2.2
theorem cg246_42 : mc_cd 246 42 = some (.invokevirtual 380, 3) ∧ mc_cd 246 45 = some (.lreturn, 1) := by decide +kernel
theorem c246_42 : mc_cd 246 42 = some (.invokevirtual 380, 3) := cg246_42.1
theorem c246_45 : mc_cd 246 45 = some (.lreturn, 1) := cg246_42.2
end
section
/-! methods of the reference (own work, written by wip/gen2/sx.py) -/
/-! StrikeAwakeModel.having(II)I -/
theorem e249 : wq_en 249 = some (9, 6, false, some FieldType.int) := rfl
theorem cg249_0 : mc_cd 249 0 = some (.aload_n 0, 1) ∧ mc_cd 249 1 = some (.iconst 0, 1) ∧ mc_cd 249 2 = some (.putfield 48, 3) ∧ mc_cd 249 5 = some (.aload_n 0, 1) ∧ mc_cd 249 6 = some (.aload_n 0, 1) ∧ mc_cd 249 7 = some (.iload_n 1, 1) ∧ mc_cd 249 8 = some (.iload_n 2, 1) ∧ mc_cd 249 9 = some (.invokevirtual 367, 3) := by decide +kernel
theorem c249_0 : mc_cd 249 0 = some (.aload_n 0, 1) := cg249_0.1
theorem c249_1 : mc_cd 249 1 = some (.iconst 0, 1) := cg249_0.2.1
theorem c249_2 : mc_cd 249 2 = some (.putfield 48, 3) := cg249_0.2.2.1
theorem c249_5 : mc_cd 249 5 = some (.aload_n 0, 1) := cg249_0.2.2.2.1
theorem c249_6 : mc_cd 249 6 = some (.aload_n 0, 1) := cg249_0.2.2.2.2.1
theorem c249_7 : mc_cd 249 7 = some (.iload_n 1, 1) := cg249_0.2.2.2.2.2.1
theorem c249_8 : mc_cd 249 8 = some (.iload_n 2, 1) := cg249_0.2.2.2.2.2.2.1
theorem c249_9 : mc_cd 249 9 = some (.invokevirtual 367, 3) := cg249_0.2.2.2.2.2.2.2
theorem cg249_12 : mc_cd 249 12 = some (.invokevirtual 433, 3) ∧ mc_cd 249 15 = some (.istore_n 3, 1) ∧ mc_cd 249 16 = some (.iload_n 3, 1) ∧ mc_cd 249 17 = some (.ifCond .le 9, 3) ∧ mc_cd 249 20 = some (.aload_n 0, 1) ∧ mc_cd 249 21 = some (.iload_n 3, 1) ∧ mc_cd 249 22 = some (.invokevirtual 54, 3) ∧ mc_cd 249 25 = some (.ireturn, 1) := by decide +kernel
theorem c249_12 : mc_cd 249 12 = some (.invokevirtual 433, 3) := cg249_12.1
theorem c249_15 : mc_cd 249 15 = some (.istore_n 3, 1) := cg249_12.2.1
theorem c249_16 : mc_cd 249 16 = some (.iload_n 3, 1) := cg249_12.2.2.1
theorem c249_17 : mc_cd 249 17 = some (.ifCond .le 9, 3) := cg249_12.2.2.2.1
theorem c249_20 : mc_cd 249 20 = some (.aload_n 0, 1) := cg249_12.2.2.2.2.1
theorem c249_21 : mc_cd 249 21 = some (.iload_n 3, 1) := cg249_12.2.2.2.2.2.1
theorem c249_22 : mc_cd 249 22 = some (.invokevirtual 54, 3) := cg249_12.2.2.2.2.2.2.1
theorem c249_25 : mc_cd 249 25 = some (.ireturn, 1) := cg249_12.2.2.2.2.2.2.2
theorem cg249_26 : mc_cd 249 26 = some (.iconst 0, 1) ∧ mc_cd 249 27 = some (.istore 4, 2) ∧ mc_cd 249 29 = some (.iconst 0, 1) ∧ mc_cd 249 30 = some (.istore 5, 2) ∧ mc_cd 249 32 = some (.iload 5, 2) ∧ mc_cd 249 34 = some (.aload_n 0, 1) ∧ mc_cd 249 35 = some (.getfield 422, 3) ∧ mc_cd 249 38 = some (.if_icmp .ge 40, 3) := by decide +kernel
theorem c249_26 : mc_cd 249 26 = some (.iconst 0, 1) := cg249_26.1
theorem c249_27 : mc_cd 249 27 = some (.istore 4, 2) := cg249_26.2.1
theorem c249_29 : mc_cd 249 29 = some (.iconst 0, 1) := cg249_26.2.2.1
theorem c249_30 : mc_cd 249 30 = some (.istore 5, 2) := cg249_26.2.2.2.1
theorem c249_32 : mc_cd 249 32 = some (.iload 5, 2) := cg249_26.2.2.2.2.1
theorem c249_34 : mc_cd 249 34 = some (.aload_n 0, 1) := cg249_26.2.2.2.2.2.1
theorem c249_35 : mc_cd 249 35 = some (.getfield 422, 3) := cg249_26.2.2.2.2.2.2.1
theorem c249_38 : mc_cd 249 38 = some (.if_icmp .ge 40, 3) := cg249_26.2.2.2.2.2.2.2
theorem cg249_41 : mc_cd 249 41 = some (.aload_n 0, 1) ∧ mc_cd 249 42 = some (.aload_n 0, 1) ∧ mc_cd 249 43 = some (.getfield 42, 3) ∧ mc_cd 249 46 = some (.iload 5, 2) ∧ mc_cd 249 48 = some (.iaload, 1) ∧ mc_cd 249 49 = some (.invokevirtual 425, 3) ∧ mc_cd 249 52 = some (.iload 4, 2) ∧ mc_cd 249 54 = some (.aload_n 0, 1) := by decide +kernel
theorem c249_41 : mc_cd 249 41 = some (.aload_n 0, 1) := cg249_41.1
theorem c249_42 : mc_cd 249 42 = some (.aload_n 0, 1) := cg249_41.2.1
theorem c249_43 : mc_cd 249 43 = some (.getfield 42, 3) := cg249_41.2.2.1
theorem c249_46 : mc_cd 249 46 = some (.iload 5, 2) := cg249_41.2.2.2.1
theorem c249_48 : mc_cd 249 48 = some (.iaload, 1) := cg249_41.2.2.2.2.1
theorem c249_49 : mc_cd 249 49 = some (.invokevirtual 425, 3) := cg249_41.2.2.2.2.2.1
theorem c249_52 : mc_cd 249 52 = some (.iload 4, 2) := cg249_41.2.2.2.2.2.2.1
theorem c249_54 : mc_cd 249 54 = some (.aload_n 0, 1) := cg249_41.2.2.2.2.2.2.2
theorem cg249_55 : mc_cd 249 55 = some (.getfield 39, 3) ∧ mc_cd 249 58 = some (.iload_n 1, 1) ∧ mc_cd 249 59 = some (.iaload, 1) ∧ mc_cd 249 60 = some (.iload_n 2, 1) ∧ mc_cd 249 61 = some (.if_icmp .ne 7, 3) ∧ mc_cd 249 64 = some (.iconst 1, 1) ∧ mc_cd 249 65 = some (.goto 4, 3) ∧ mc_cd 249 68 = some (.iconst 0, 1) := by decide +kernel
theorem c249_55 : mc_cd 249 55 = some (.getfield 39, 3) := cg249_55.1
theorem c249_58 : mc_cd 249 58 = some (.iload_n 1, 1) := cg249_55.2.1
theorem c249_59 : mc_cd 249 59 = some (.iaload, 1) := cg249_55.2.2.1
theorem c249_60 : mc_cd 249 60 = some (.iload_n 2, 1) := cg249_55.2.2.2.1
theorem c249_61 : mc_cd 249 61 = some (.if_icmp .ne 7, 3) := cg249_55.2.2.2.2.1
theorem c249_64 : mc_cd 249 64 = some (.iconst 1, 1) := cg249_55.2.2.2.2.2.1
theorem c249_65 : mc_cd 249 65 = some (.goto 4, 3) := cg249_55.2.2.2.2.2.2.1
theorem c249_68 : mc_cd 249 68 = some (.iconst 0, 1) := cg249_55.2.2.2.2.2.2.2
theorem cg249_69 : mc_cd 249 69 = some (.iadd, 1) ∧ mc_cd 249 70 = some (.istore 4, 2) ∧ mc_cd 249 72 = some (.iinc 5 1, 3) ∧ mc_cd 249 75 = some (.goto (-43), 3) ∧ mc_cd 249 78 = some (.aload_n 0, 1) ∧ mc_cd 249 79 = some (.iload 4, 2) ∧ mc_cd 249 81 = some (.invokevirtual 58, 3) ∧ mc_cd 249 84 = some (.ireturn, 1) := by decide +kernel
theorem c249_69 : mc_cd 249 69 = some (.iadd, 1) := cg249_69.1
theorem c249_70 : mc_cd 249 70 = some (.istore 4, 2) := cg249_69.2.1
theorem c249_72 : mc_cd 249 72 = some (.iinc 5 1, 3) := cg249_69.2.2.1
theorem c249_75 : mc_cd 249 75 = some (.goto (-43), 3) := cg249_69.2.2.2.1
theorem c249_78 : mc_cd 249 78 = some (.aload_n 0, 1) := cg249_69.2.2.2.2.1
theorem c249_79 : mc_cd 249 79 = some (.iload 4, 2) := cg249_69.2.2.2.2.2.1
theorem c249_81 : mc_cd 249 81 = some (.invokevirtual 58, 3) := cg249_69.2.2.2.2.2.2.1
theorem c249_84 : mc_cd 249 84 = some (.ireturn, 1) := cg249_69.2.2.2.2.2.2.2
/-! StrikeAwakeModel.awakeIn(II)I -/
theorem e251 : wq_en 251 = some (9, 5, false, some FieldType.int) := rfl
theorem cg251_0 : mc_cd 251 0 = some (.iconst 0, 1) ∧ mc_cd 251 1 = some (.istore_n 3, 1) ∧ mc_cd 251 2 = some (.iconst 0, 1) ∧ mc_cd 251 3 = some (.istore 4, 2) ∧ mc_cd 251 5 = some (.iload 4, 2) ∧ mc_cd 251 7 = some (.aload_n 0, 1) ∧ mc_cd 251 8 = some (.getfield 422, 3) ∧ mc_cd 251 11 = some (.if_icmp .ge 51, 3) := by decide +kernel
theorem c251_0 : mc_cd 251 0 = some (.iconst 0, 1) := cg251_0.1
theorem c251_1 : mc_cd 251 1 = some (.istore_n 3, 1) := cg251_0.2.1
theorem c251_2 : mc_cd 251 2 = some (.iconst 0, 1) := cg251_0.2.2.1
theorem c251_3 : mc_cd 251 3 = some (.istore 4, 2) := cg251_0.2.2.2.1
theorem c251_5 : mc_cd 251 5 = some (.iload 4, 2) := cg251_0.2.2.2.2.1
theorem c251_7 : mc_cd 251 7 = some (.aload_n 0, 1) := cg251_0.2.2.2.2.2.1
theorem c251_8 : mc_cd 251 8 = some (.getfield 422, 3) := cg251_0.2.2.2.2.2.2.1
theorem c251_11 : mc_cd 251 11 = some (.if_icmp .ge 51, 3) := cg251_0.2.2.2.2.2.2.2
theorem cg251_14 : mc_cd 251 14 = some (.aload_n 0, 1) ∧ mc_cd 251 15 = some (.aload_n 0, 1) ∧ mc_cd 251 16 = some (.getfield 42, 3) ∧ mc_cd 251 19 = some (.iload 4, 2) ∧ mc_cd 251 21 = some (.iaload, 1) ∧ mc_cd 251 22 = some (.invokevirtual 425, 3) ∧ mc_cd 251 25 = some (.iload_n 3, 1) ∧ mc_cd 251 26 = some (.aload_n 0, 1) := by decide +kernel
theorem c251_14 : mc_cd 251 14 = some (.aload_n 0, 1) := cg251_14.1
theorem c251_15 : mc_cd 251 15 = some (.aload_n 0, 1) := cg251_14.2.1
theorem c251_16 : mc_cd 251 16 = some (.getfield 42, 3) := cg251_14.2.2.1
theorem c251_19 : mc_cd 251 19 = some (.iload 4, 2) := cg251_14.2.2.2.1
theorem c251_21 : mc_cd 251 21 = some (.iaload, 1) := cg251_14.2.2.2.2.1
theorem c251_22 : mc_cd 251 22 = some (.invokevirtual 425, 3) := cg251_14.2.2.2.2.2.1
theorem c251_25 : mc_cd 251 25 = some (.iload_n 3, 1) := cg251_14.2.2.2.2.2.2.1
theorem c251_26 : mc_cd 251 26 = some (.aload_n 0, 1) := cg251_14.2.2.2.2.2.2.2
theorem cg251_27 : mc_cd 251 27 = some (.getfield 33, 3) ∧ mc_cd 251 30 = some (.bipush 40, 2) ∧ mc_cd 251 32 = some (.iload_n 1, 1) ∧ mc_cd 251 33 = some (.imul, 1) ∧ mc_cd 251 34 = some (.aload_n 0, 1) ∧ mc_cd 251 35 = some (.getfield 39, 3) ∧ mc_cd 251 38 = some (.iload_n 1, 1) ∧ mc_cd 251 39 = some (.iaload, 1) := by decide +kernel
theorem c251_27 : mc_cd 251 27 = some (.getfield 33, 3) := cg251_27.1
theorem c251_30 : mc_cd 251 30 = some (.bipush 40, 2) := cg251_27.2.1
theorem c251_32 : mc_cd 251 32 = some (.iload_n 1, 1) := cg251_27.2.2.1
theorem c251_33 : mc_cd 251 33 = some (.imul, 1) := cg251_27.2.2.2.1
theorem c251_34 : mc_cd 251 34 = some (.aload_n 0, 1) := cg251_27.2.2.2.2.1
theorem c251_35 : mc_cd 251 35 = some (.getfield 39, 3) := cg251_27.2.2.2.2.2.1
theorem c251_38 : mc_cd 251 38 = some (.iload_n 1, 1) := cg251_27.2.2.2.2.2.2.1
theorem c251_39 : mc_cd 251 39 = some (.iaload, 1) := cg251_27.2.2.2.2.2.2.2
theorem cg251_40 : mc_cd 251 40 = some (.iadd, 1) ∧ mc_cd 251 41 = some (.iaload, 1) ∧ mc_cd 251 42 = some (.iload_n 2, 1) ∧ mc_cd 251 43 = some (.invokestatic 346, 3) ∧ mc_cd 251 46 = some (.ifCond .eq 7, 3) ∧ mc_cd 251 49 = some (.iconst 1, 1) ∧ mc_cd 251 50 = some (.goto 4, 3) ∧ mc_cd 251 53 = some (.iconst 0, 1) := by decide +kernel
theorem c251_40 : mc_cd 251 40 = some (.iadd, 1) := cg251_40.1
theorem c251_41 : mc_cd 251 41 = some (.iaload, 1) := cg251_40.2.1
theorem c251_42 : mc_cd 251 42 = some (.iload_n 2, 1) := cg251_40.2.2.1
theorem c251_43 : mc_cd 251 43 = some (.invokestatic 346, 3) := cg251_40.2.2.2.1
theorem c251_46 : mc_cd 251 46 = some (.ifCond .eq 7, 3) := cg251_40.2.2.2.2.1
theorem c251_49 : mc_cd 251 49 = some (.iconst 1, 1) := cg251_40.2.2.2.2.2.1
theorem c251_50 : mc_cd 251 50 = some (.goto 4, 3) := cg251_40.2.2.2.2.2.2.1
theorem c251_53 : mc_cd 251 53 = some (.iconst 0, 1) := cg251_40.2.2.2.2.2.2.2
theorem cg251_54 : mc_cd 251 54 = some (.iadd, 1) ∧ mc_cd 251 55 = some (.istore_n 3, 1) ∧ mc_cd 251 56 = some (.iinc 4 1, 3) ∧ mc_cd 251 59 = some (.goto (-54), 3) ∧ mc_cd 251 62 = some (.iload_n 3, 1) ∧ mc_cd 251 63 = some (.ireturn, 1) := by decide +kernel
theorem c251_54 : mc_cd 251 54 = some (.iadd, 1) := cg251_54.1
theorem c251_55 : mc_cd 251 55 = some (.istore_n 3, 1) := cg251_54.2.1
theorem c251_56 : mc_cd 251 56 = some (.iinc 4 1, 3) := cg251_54.2.2.1
theorem c251_59 : mc_cd 251 59 = some (.goto (-54), 3) := cg251_54.2.2.2.1
theorem c251_62 : mc_cd 251 62 = some (.iload_n 3, 1) := cg251_54.2.2.2.2.1
theorem c251_63 : mc_cd 251 63 = some (.ireturn, 1) := cg251_54.2.2.2.2.2
abbrev q_251 (r0 : Nat) (a1 : Int) (a2 : Int) (pp : Nat) (T : wq_T) (H : wq_H) : Option Value → wq_T → wq_H → Prop := fun r T' H' => T = T' ∧ WT T H' ∧ wfr [(51, 999)] T H H' ∧ ∃ z : Int, some (vI z) = r ∧ ((-2147483648) ≤ z ∧ z ≤ 2147483647)
set_option maxHeartbeats 4000000 in
theorem s_251 {kt : Nat → Option mc_E} {T : wq_T} {H : wq_H} {r0 : Nat} {a1 : Int} {a2 : Int} {pp : Nat} (hW : WT T H) (g0 : T.2.2.2 r0 = some 42) (i1 : 0 ≤ a1 ∧ a1 ≤ 5) (i2 : (-2147483648) ≤ a2 ∧ a2 ≤ 2147483647) (qpp : H r0 3 = (pp : Int)) (gpp : T.2.2.2 pp = some 54) (p0 : H r0 29 = 0 ∨ 0 < wLM H r0) : wpc kt 2 251 [.ref r0, vI a1, vI a2] T H (q_251 r0 a1 a2 pp T H) := by
  refine wp_enter e251 (Nat.le_of_ble_eq_true rfl) rfl ?_
  have f0 : wfr [(51, 999)] T H H := wfr.rf
  show wp _ _ 251 0 [(0, .ref r0), (1, vI a1), (2, vI a2)] [] _ H _
  have b139379 : 0 ≤ H r0 29 ∧ H r0 29 ≤ 20000 := hW.box g0 (n := 33) rfl (by decide) rfl
  refine wp_of e251 c251_0 (rw_iconst (pc' := 1) rfl ?_)
  refine wp_of e251 c251_1 (rw_istore_n (pc' := 2) (z := 0) (L' := [(3, vI 0), (0, .ref r0), (1, vI a1), (2, vI a2)]) rfl rfl rfl ?_)
  refine wp_of e251 c251_2 (rw_iconst (pc' := 3) rfl ?_)
  refine wp_of e251 c251_3 (rw_istore (pc' := 5) (z := 0) (L' := [(4, vI 0), (3, vI 0), (0, .ref r0), (1, vI a1), (2, vI a2)]) rfl rfl rfl ?_)
  have lp139753 : ∀ (n139754 : Nat) (v139756 : Int) (v139757 : Int) (H139758 : wq_H), WT T H139758 → wfr [(51, 999)] T H H139758 → (0 ≤ v139756 ∧ v139756 ≤ 20000) → ((-2147483648) ≤ v139757 ∧ v139757 ≤ 2147483647) → (20000 - v139756).toNat = n139754 → wp kt 1 251 5 [(4, vI v139756), (3, vI v139757), (0, .ref r0), (1, vI a1), (2, vI a2)] [] T H139758 (q_251 r0 a1 a2 pp T H) := by
    intro n139754
    induction n139754 using Nat.strongRecOn with
    | _ n139754 ih139755 =>
      intro v139756 v139757 H139758 w139759 f139760 b139761 b139762 m139763
      have f139764 := f0.tr f139760 rfl
      refine wp_of e251 c251_5 (rw_iload (pc' := 7) (z := v139756) rfl rfl ?_)
      refine wp_of e251 c251_7 (rw_aload_n (pc' := 8) (v := .ref r0) rfl rfl rfl ?_)
      have k139765 : H139758 r0 29 = H r0 29 := (f139760 r0 29 _ g0 rfl)
      refine wp_of e251 c251_8 (xg_I (pc' := 11) lf_9_422 w139759 g0 sh_42 (by decide) (by decide) ty_42_29 rfl rfl (fun b139766 b139767 => ?_))
      refine wp_of e251 c251_11 (rw_icmp_ge (p1 := 62) (p2 := 14) (by decide) rfl ⟨by omega, by omega⟩ ⟨by omega, by omega⟩ (fun c139768 => ?_) (fun c139768 => ?_))
      · refine wp_of e251 c251_62 (rw_iload_n (pc' := 63) (z := v139757) rfl rfl ?_)
        exact wp_ireturn e251 c251_63 rfl ⟨rfl, w139759, f139764, v139757, rfl, ⟨by omega, by omega⟩⟩
      · refine wp_of e251 c251_14 (rw_aload_n (pc' := 15) (v := .ref r0) rfl rfl rfl ?_)
        refine wp_of e251 c251_15 (rw_aload_n (pc' := 16) (v := .ref r0) rfl rfl rfl ?_)
        refine wp_of e251 c251_16 (xg_R (pc' := 19) lf_9_42 w139759 g0 sh_42 (by decide) (by decide) ty_42_30 rfl rfl (fun r139769 q139770 g139771 => ?_))
        refine wp_of e251 c251_19 (rw_iload (pc' := 21) (z := v139756) rfl rfl ?_)
        refine wp_of e251 c251_21 (xa_I (so := 0) (pc' := 22) w139759 g139771 sh_52 (by decide) (ty_52 _) (by omega) (by omega) rfl (fun b139772 b139773 => ?_))
        have k139774 : wLM H139758 r0 = wLM H r0 := (wLM_fr hW g0 f139760 rfl)
        have k139775 : H139758 r0 3 = H r0 3 := (f139760 r0 3 _ g0 rfl)
        have q139776 : H139758 r0 3 = (pp : Int) := k139775.trans qpp
        refine wp_of e251 c251_22 (xc_V (pc' := 25) (r := r0) (as := [vI (H139758 r139769 (v139756.toNat))]) (st := []) (lm_9_425) rfl rfl (Nat.le_of_ble_eq_true rfl) w139759 g0 sh_42 (by decide) rfl (by decide) (s_243 w139759 g0 ⟨by omega, by omega⟩ q139776 gpp (by omega)) (fun R139777 T139778 H139779 p139780 => ?_))
        obtain ⟨e139781, w139783, f139784, e139782⟩ := p139780
        subst e139781
        subst e139782
        have f139785 := f139764.tr f139784 rfl
        have f139786 := f139760.tr f139784 rfl
        show wp _ _ 251 25 [(4, vI v139756), (3, vI v139757), (0, .ref r0), (1, vI a1), (2, vI a2)] [] _ H139779 _
        refine wp_of e251 c251_25 (rw_iload_n (pc' := 26) (z := v139757) rfl rfl ?_)
        refine wp_of e251 c251_26 (rw_aload_n (pc' := 27) (v := .ref r0) rfl rfl rfl ?_)
        refine wp_of e251 c251_27 (xg_R (pc' := 30) lf_9_33 w139783 g0 sh_42 (by decide) (by decide) ty_42_25 rfl rfl (fun r139787 q139788 g139789 => ?_))
        refine wp_of e251 c251_30 (rw_bipush (pc' := 32) (z := 40) rfl (by decide) ?_)
        refine wp_of e251 c251_32 (rw_iload_n (pc' := 33) (z := a1) rfl rfl ?_)
        refine wp_of e251 c251_33 (rw_imul (pc' := 34) rfl ?_)
        refine wp_of e251 c251_34 (rw_aload_n (pc' := 35) (v := .ref r0) rfl rfl rfl ?_)
        refine wp_of e251 c251_35 (xg_R (pc' := 38) lf_9_39 w139783 g0 sh_42 (by decide) (by decide) ty_42_27 rfl rfl (fun r139790 q139791 g139792 => ?_))
        refine wp_of e251 c251_38 (rw_iload_n (pc' := 39) (z := a1) rfl rfl ?_)
        refine wp_of e251 c251_39 (xa_I (so := 0) (pc' := 40) w139783 g139792 sh_51 (by decide) (ty_51 _) (by omega) (by omega) rfl (fun b139793 b139794 => ?_))
        refine wp_of e251 c251_40 (rw_iadd (pc' := 41) rfl ?_)
        refine wp_of e251 c251_41 (xa_I (so := 0) (pc' := 42) w139783 g139789 sh_49 (by decide) (ty_49 _) (by omega) (by omega) rfl (fun b139795 b139796 => ?_))
        refine wp_of e251 c251_42 (rw_iload_n (pc' := 43) (z := a2) rfl rfl ?_)
        refine wp_of e251 c251_43 (xc_S (pc' := 46) (as := [vI (H139779 r139787 (((40 * a1) + (H139779 r139790 (a1.toNat))).toNat)), vI a2]) (st := [vI v139757]) (lm_9_346) rfl rfl (Nat.le_of_ble_eq_true rfl) rfl (by decide) (s_205 w139783 ⟨by omega, by omega⟩ ⟨by omega, by omega⟩) (fun R139797 T139798 H139799 p139800 => ?_))
        obtain ⟨e139801, e139803, z139804, e139802, b139805⟩ := p139800
        subst e139801
        subst e139802
        subst e139803
        show wp _ _ 251 46 [(4, vI v139756), (3, vI v139757), (0, .ref r0), (1, vI a1), (2, vI a2)] [vI z139804, vI v139757] _ H139779 _
        refine wp_of e251 c251_46 (rw_if_eq (p1 := 53) (p2 := 49) (by decide) rfl ⟨by omega, by omega⟩ (fun c139806 => ?_) (fun c139806 => ?_))
        · refine wp_of e251 c251_53 (rw_iconst (pc' := 54) rfl ?_)
          refine wp_of e251 c251_54 (rw_iadd (pc' := 55) rfl ?_)
          refine wp_of e251 c251_55 (rw_istore_n (pc' := 56) (z := v139757 + 0) (L' := [(3, vI (v139757 + 0)), (4, vI v139756), (0, .ref r0), (1, vI a1), (2, vI a2)]) rfl rfl rfl ?_)
          refine wp_of e251 c251_56 (rw_iinc (pc' := 59) (z := v139756) (L' := [(4, vI (v139756 + 1)), (3, vI (v139757 + 0)), (0, .ref r0), (1, vI a1), (2, vI a2)]) rfl rfl rfl rfl ?_)
          refine wp_of e251 c251_59 (rw_goto (p1 := 5) (by decide) ?_)
          exact wp_lc (ks := [4, 3, 0, 1, 2]) (wl_c rfl (wl_c rfl (wl_c rfl (wl_c rfl (wl_c rfl wl_n))))) rfl (by decide) (ih139755 _ (by omega) (v139756 + 1) (v139757 + 0) H139779 w139783 f139786 ⟨by omega, by omega⟩ ⟨by omega, by omega⟩ rfl)
        · refine wp_of e251 c251_49 (rw_iconst (pc' := 50) rfl ?_)
          refine wp_of e251 c251_50 (rw_goto (p1 := 54) (by decide) ?_)
          refine wp_of e251 c251_54 (rw_iaddw (pc' := 55) rfl ?_)
          obtain ⟨v139807, e139808⟩ : ∃ x : Int, x = wq_w (v139757 + 1) := ⟨_, rfl⟩
          rw [← e139808]
          have b139809 : -2147483648 ≤ v139807 ∧ v139807 ≤ 2147483647 := by
            rw [e139808]
            exact wI_w _
          refine wp_of e251 c251_55 (rw_istore_n (pc' := 56) (z := v139807) (L' := [(3, vI v139807), (4, vI v139756), (0, .ref r0), (1, vI a1), (2, vI a2)]) rfl rfl rfl ?_)
          refine wp_of e251 c251_56 (rw_iinc (pc' := 59) (z := v139756) (L' := [(4, vI (v139756 + 1)), (3, vI v139807), (0, .ref r0), (1, vI a1), (2, vI a2)]) rfl rfl rfl rfl ?_)
          refine wp_of e251 c251_59 (rw_goto (p1 := 5) (by decide) ?_)
          exact wp_lc (ks := [4, 3, 0, 1, 2]) (wl_c rfl (wl_c rfl (wl_c rfl (wl_c rfl (wl_c rfl wl_n))))) rfl (by decide) (ih139755 _ (by omega) (v139756 + 1) v139807 H139779 w139783 f139786 ⟨by omega, by omega⟩ ⟨by omega, by omega⟩ rfl)
  exact wp_lc (ks := [4, 3, 0, 1, 2]) (wl_c rfl (wl_c rfl (wl_c rfl (wl_c rfl (wl_c rfl wl_n))))) rfl (by decide) (lp139753 _ 0 0 H hW wfr.rf ⟨by omega, by omega⟩ ⟨by omega, by omega⟩ rfl)
/-! StrikeAwakeModel.times(II)I -/
theorem e250 : wq_en 250 = some (9, 4, false, some FieldType.int) := rfl
theorem cg250_0 : mc_cd 250 0 = some (.aload_n 0, 1) ∧ mc_cd 250 1 = some (.iconst 0, 1) ∧ mc_cd 250 2 = some (.putfield 48, 3) ∧ mc_cd 250 5 = some (.aload_n 0, 1) ∧ mc_cd 250 6 = some (.aload_n 0, 1) ∧ mc_cd 250 7 = some (.iload_n 1, 1) ∧ mc_cd 250 8 = some (.invokevirtual 364, 3) ∧ mc_cd 250 11 = some (.ifCond .eq 15, 3) := by decide +kernel
theorem c250_0 : mc_cd 250 0 = some (.aload_n 0, 1) := cg250_0.1
theorem c250_1 : mc_cd 250 1 = some (.iconst 0, 1) := cg250_0.2.1
theorem c250_2 : mc_cd 250 2 = some (.putfield 48, 3) := cg250_0.2.2.1
theorem c250_5 : mc_cd 250 5 = some (.aload_n 0, 1) := cg250_0.2.2.2.1
theorem c250_6 : mc_cd 250 6 = some (.aload_n 0, 1) := cg250_0.2.2.2.2.1
theorem c250_7 : mc_cd 250 7 = some (.iload_n 1, 1) := cg250_0.2.2.2.2.2.1
theorem c250_8 : mc_cd 250 8 = some (.invokevirtual 364, 3) := cg250_0.2.2.2.2.2.2.1
theorem c250_11 : mc_cd 250 11 = some (.ifCond .eq 15, 3) := cg250_0.2.2.2.2.2.2.2
theorem cg250_14 : mc_cd 250 14 = some (.aload_n 0, 1) ∧ mc_cd 250 15 = some (.iload_n 2, 1) ∧ mc_cd 250 16 = some (.invokevirtual 373, 3) ∧ mc_cd 250 19 = some (.ifCond .eq 7, 3) ∧ mc_cd 250 22 = some (.iconst 1, 1) ∧ mc_cd 250 23 = some (.goto 4, 3) ∧ mc_cd 250 26 = some (.iconst 0, 1) ∧ mc_cd 250 27 = some (.invokevirtual 433, 3) := by decide +kernel
theorem c250_14 : mc_cd 250 14 = some (.aload_n 0, 1) := cg250_14.1
theorem c250_15 : mc_cd 250 15 = some (.iload_n 2, 1) := cg250_14.2.1
theorem c250_16 : mc_cd 250 16 = some (.invokevirtual 373, 3) := cg250_14.2.2.1
theorem c250_19 : mc_cd 250 19 = some (.ifCond .eq 7, 3) := cg250_14.2.2.2.1
theorem c250_22 : mc_cd 250 22 = some (.iconst 1, 1) := cg250_14.2.2.2.2.1
theorem c250_23 : mc_cd 250 23 = some (.goto 4, 3) := cg250_14.2.2.2.2.2.1
theorem c250_26 : mc_cd 250 26 = some (.iconst 0, 1) := cg250_14.2.2.2.2.2.2.1
theorem c250_27 : mc_cd 250 27 = some (.invokevirtual 433, 3) := cg250_14.2.2.2.2.2.2.2
theorem cg250_30 : mc_cd 250 30 = some (.istore_n 3, 1) ∧ mc_cd 250 31 = some (.iload_n 3, 1) ∧ mc_cd 250 32 = some (.ifCond .le 11, 3) ∧ mc_cd 250 35 = some (.aload_n 0, 1) ∧ mc_cd 250 36 = some (.iload_n 3, 1) ∧ mc_cd 250 37 = some (.invokevirtual 54, 3) ∧ mc_cd 250 40 = some (.goto 13, 3) ∧ mc_cd 250 43 = some (.aload_n 0, 1) := by decide +kernel
theorem c250_30 : mc_cd 250 30 = some (.istore_n 3, 1) := cg250_30.1
theorem c250_31 : mc_cd 250 31 = some (.iload_n 3, 1) := cg250_30.2.1
theorem c250_32 : mc_cd 250 32 = some (.ifCond .le 11, 3) := cg250_30.2.2.1
theorem c250_35 : mc_cd 250 35 = some (.aload_n 0, 1) := cg250_30.2.2.2.1
theorem c250_36 : mc_cd 250 36 = some (.iload_n 3, 1) := cg250_30.2.2.2.2.1
theorem c250_37 : mc_cd 250 37 = some (.invokevirtual 54, 3) := cg250_30.2.2.2.2.2.1
theorem c250_40 : mc_cd 250 40 = some (.goto 13, 3) := cg250_30.2.2.2.2.2.2.1
theorem c250_43 : mc_cd 250 43 = some (.aload_n 0, 1) := cg250_30.2.2.2.2.2.2.2
theorem cg250_44 : mc_cd 250 44 = some (.aload_n 0, 1) ∧ mc_cd 250 45 = some (.iload_n 1, 1) ∧ mc_cd 250 46 = some (.iload_n 2, 1) ∧ mc_cd 250 47 = some (.invokevirtual 444, 3) ∧ mc_cd 250 50 = some (.invokevirtual 58, 3) ∧ mc_cd 250 53 = some (.ireturn, 1) := by decide +kernel
theorem c250_44 : mc_cd 250 44 = some (.aload_n 0, 1) := cg250_44.1
theorem c250_45 : mc_cd 250 45 = some (.iload_n 1, 1) := cg250_44.2.1
theorem c250_46 : mc_cd 250 46 = some (.iload_n 2, 1) := cg250_44.2.2.1
theorem c250_47 : mc_cd 250 47 = some (.invokevirtual 444, 3) := cg250_44.2.2.2.1
theorem c250_50 : mc_cd 250 50 = some (.invokevirtual 58, 3) := cg250_44.2.2.2.2.1
theorem c250_53 : mc_cd 250 53 = some (.ireturn, 1) := cg250_44.2.2.2.2.2
/-! StrikeAwakeModel.refusesSome(Z)I -/
theorem e253 : wq_en 253 = some (9, 3, false, some FieldType.int) := rfl
theorem cg253_0 : mc_cd 253 0 = some (.aload_n 0, 1) ∧ mc_cd 253 1 = some (.iload_n 1, 1) ∧ mc_cd 253 2 = some (.invokevirtual 433, 3) ∧ mc_cd 253 5 = some (.istore_n 2, 1) ∧ mc_cd 253 6 = some (.iload_n 2, 1) ∧ mc_cd 253 7 = some (.ifCond .ne 15, 3) ∧ mc_cd 253 10 = some (.aload_n 0, 1) ∧ mc_cd 253 11 = some (.getfield 422, 3) := by decide +kernel
theorem c253_0 : mc_cd 253 0 = some (.aload_n 0, 1) := cg253_0.1
theorem c253_1 : mc_cd 253 1 = some (.iload_n 1, 1) := cg253_0.2.1
theorem c253_2 : mc_cd 253 2 = some (.invokevirtual 433, 3) := cg253_0.2.2.1
theorem c253_5 : mc_cd 253 5 = some (.istore_n 2, 1) := cg253_0.2.2.2.1
theorem c253_6 : mc_cd 253 6 = some (.iload_n 2, 1) := cg253_0.2.2.2.2.1
theorem c253_7 : mc_cd 253 7 = some (.ifCond .ne 15, 3) := cg253_0.2.2.2.2.2.1
theorem c253_10 : mc_cd 253 10 = some (.aload_n 0, 1) := cg253_0.2.2.2.2.2.2.1
theorem c253_11 : mc_cd 253 11 = some (.getfield 422, 3) := cg253_0.2.2.2.2.2.2.2
theorem cg253_14 : mc_cd 253 14 = some (.ifCond .ne 8, 3) ∧ mc_cd 253 17 = some (.bipush 6, 2) ∧ mc_cd 253 19 = some (.goto 4, 3) ∧ mc_cd 253 22 = some (.iload_n 2, 1) ∧ mc_cd 253 23 = some (.ireturn, 1) := by decide +kernel
theorem c253_14 : mc_cd 253 14 = some (.ifCond .ne 8, 3) := cg253_14.1
theorem c253_17 : mc_cd 253 17 = some (.bipush 6, 2) := cg253_14.2.1
theorem c253_19 : mc_cd 253 19 = some (.goto 4, 3) := cg253_14.2.2.1
theorem c253_22 : mc_cd 253 22 = some (.iload_n 2, 1) := cg253_14.2.2.2.1
theorem c253_23 : mc_cd 253 23 = some (.ireturn, 1) := cg253_14.2.2.2.2
/-! StrikeAwakeModel.sure(II)I -/
theorem e252 : wq_en 252 = some (9, 5, false, some FieldType.int) := rfl
theorem cg252_0 : mc_cd 252 0 = some (.aload_n 0, 1) ∧ mc_cd 252 1 = some (.iconst 0, 1) ∧ mc_cd 252 2 = some (.putfield 48, 3) ∧ mc_cd 252 5 = some (.aload_n 0, 1) ∧ mc_cd 252 6 = some (.aload_n 0, 1) ∧ mc_cd 252 7 = some (.iload_n 1, 1) ∧ mc_cd 252 8 = some (.invokevirtual 364, 3) ∧ mc_cd 252 11 = some (.ifCond .eq 15, 3) := by decide +kernel
theorem c252_0 : mc_cd 252 0 = some (.aload_n 0, 1) := cg252_0.1
theorem c252_1 : mc_cd 252 1 = some (.iconst 0, 1) := cg252_0.2.1
theorem c252_2 : mc_cd 252 2 = some (.putfield 48, 3) := cg252_0.2.2.1
theorem c252_5 : mc_cd 252 5 = some (.aload_n 0, 1) := cg252_0.2.2.2.1
theorem c252_6 : mc_cd 252 6 = some (.aload_n 0, 1) := cg252_0.2.2.2.2.1
theorem c252_7 : mc_cd 252 7 = some (.iload_n 1, 1) := cg252_0.2.2.2.2.2.1
theorem c252_8 : mc_cd 252 8 = some (.invokevirtual 364, 3) := cg252_0.2.2.2.2.2.2.1
theorem c252_11 : mc_cd 252 11 = some (.ifCond .eq 15, 3) := cg252_0.2.2.2.2.2.2.2
theorem cg252_14 : mc_cd 252 14 = some (.aload_n 0, 1) ∧ mc_cd 252 15 = some (.iload_n 2, 1) ∧ mc_cd 252 16 = some (.invokevirtual 373, 3) ∧ mc_cd 252 19 = some (.ifCond .eq 7, 3) ∧ mc_cd 252 22 = some (.iconst 1, 1) ∧ mc_cd 252 23 = some (.goto 4, 3) ∧ mc_cd 252 26 = some (.iconst 0, 1) ∧ mc_cd 252 27 = some (.invokevirtual 447, 3) := by decide +kernel
theorem c252_14 : mc_cd 252 14 = some (.aload_n 0, 1) := cg252_14.1
theorem c252_15 : mc_cd 252 15 = some (.iload_n 2, 1) := cg252_14.2.1
theorem c252_16 : mc_cd 252 16 = some (.invokevirtual 373, 3) := cg252_14.2.2.1
theorem c252_19 : mc_cd 252 19 = some (.ifCond .eq 7, 3) := cg252_14.2.2.2.1
theorem c252_22 : mc_cd 252 22 = some (.iconst 1, 1) := cg252_14.2.2.2.2.1
theorem c252_23 : mc_cd 252 23 = some (.goto 4, 3) := cg252_14.2.2.2.2.2.1
theorem c252_26 : mc_cd 252 26 = some (.iconst 0, 1) := cg252_14.2.2.2.2.2.2.1
theorem c252_27 : mc_cd 252 27 = some (.invokevirtual 447, 3) := cg252_14.2.2.2.2.2.2.2
theorem cg252_30 : mc_cd 252 30 = some (.istore_n 3, 1) ∧ mc_cd 252 31 = some (.iload_n 3, 1) ∧ mc_cd 252 32 = some (.ifCond .le 9, 3) ∧ mc_cd 252 35 = some (.aload_n 0, 1) ∧ mc_cd 252 36 = some (.iload_n 3, 1) ∧ mc_cd 252 37 = some (.invokevirtual 54, 3) ∧ mc_cd 252 40 = some (.ireturn, 1) ∧ mc_cd 252 41 = some (.aload_n 0, 1) := by decide +kernel
theorem c252_30 : mc_cd 252 30 = some (.istore_n 3, 1) := cg252_30.1
theorem c252_31 : mc_cd 252 31 = some (.iload_n 3, 1) := cg252_30.2.1
theorem c252_32 : mc_cd 252 32 = some (.ifCond .le 9, 3) := cg252_30.2.2.1
theorem c252_35 : mc_cd 252 35 = some (.aload_n 0, 1) := cg252_30.2.2.2.1
theorem c252_36 : mc_cd 252 36 = some (.iload_n 3, 1) := cg252_30.2.2.2.2.1
theorem c252_37 : mc_cd 252 37 = some (.invokevirtual 54, 3) := cg252_30.2.2.2.2.2.1
theorem c252_40 : mc_cd 252 40 = some (.ireturn, 1) := cg252_30.2.2.2.2.2.2.1
theorem c252_41 : mc_cd 252 41 = some (.aload_n 0, 1) := cg252_30.2.2.2.2.2.2.2
theorem cg252_42 : mc_cd 252 42 = some (.iload_n 1, 1) ∧ mc_cd 252 43 = some (.iload_n 2, 1) ∧ mc_cd 252 44 = some (.invokevirtual 444, 3) ∧ mc_cd 252 47 = some (.istore 4, 2) ∧ mc_cd 252 49 = some (.aload_n 0, 1) ∧ mc_cd 252 50 = some (.iload 4, 2) ∧ mc_cd 252 52 = some (.aload_n 0, 1) ∧ mc_cd 252 53 = some (.getfield 422, 3) := by decide +kernel
theorem c252_42 : mc_cd 252 42 = some (.iload_n 1, 1) := cg252_42.1
theorem c252_43 : mc_cd 252 43 = some (.iload_n 2, 1) := cg252_42.2.1
theorem c252_44 : mc_cd 252 44 = some (.invokevirtual 444, 3) := cg252_42.2.2.1
theorem c252_47 : mc_cd 252 47 = some (.istore 4, 2) := cg252_42.2.2.2.1
theorem c252_49 : mc_cd 252 49 = some (.aload_n 0, 1) := cg252_42.2.2.2.2.1
theorem c252_50 : mc_cd 252 50 = some (.iload 4, 2) := cg252_42.2.2.2.2.2.1
theorem c252_52 : mc_cd 252 52 = some (.aload_n 0, 1) := cg252_42.2.2.2.2.2.2.1
theorem c252_53 : mc_cd 252 53 = some (.getfield 422, 3) := cg252_42.2.2.2.2.2.2.2
theorem cg252_56 : mc_cd 252 56 = some (.if_icmp .ne 7, 3) ∧ mc_cd 252 59 = some (.iconst 2, 1) ∧ mc_cd 252 60 = some (.goto 13, 3) ∧ mc_cd 252 63 = some (.iload 4, 2) ∧ mc_cd 252 65 = some (.ifCond .ne 7, 3) ∧ mc_cd 252 68 = some (.iconst 0, 1) ∧ mc_cd 252 69 = some (.goto 4, 3) ∧ mc_cd 252 72 = some (.iconst 1, 1) := by decide +kernel
theorem c252_56 : mc_cd 252 56 = some (.if_icmp .ne 7, 3) := cg252_56.1
theorem c252_59 : mc_cd 252 59 = some (.iconst 2, 1) := cg252_56.2.1
theorem c252_60 : mc_cd 252 60 = some (.goto 13, 3) := cg252_56.2.2.1
theorem c252_63 : mc_cd 252 63 = some (.iload 4, 2) := cg252_56.2.2.2.1
theorem c252_65 : mc_cd 252 65 = some (.ifCond .ne 7, 3) := cg252_56.2.2.2.2.1
theorem c252_68 : mc_cd 252 68 = some (.iconst 0, 1) := cg252_56.2.2.2.2.2.1
theorem c252_69 : mc_cd 252 69 = some (.goto 4, 3) := cg252_56.2.2.2.2.2.2.1
theorem c252_72 : mc_cd 252 72 = some (.iconst 1, 1) := cg252_56.2.2.2.2.2.2.2
theorem cg252_73 : mc_cd 252 73 = some (.invokevirtual 58, 3) ∧ mc_cd 252 76 = some (.ireturn, 1) := by decide +kernel
theorem c252_73 : mc_cd 252 73 = some (.invokevirtual 58, 3) := cg252_73.1
theorem c252_76 : mc_cd 252 76 = some (.ireturn, 1) := cg252_73.2
/-! StrikeAwakeModel.surely(IZ)I -/
theorem e254 : wq_en 254 = some (9, 6, false, some FieldType.int) := rfl
theorem cg254_0 : mc_cd 254 0 = some (.aload_n 0, 1) ∧ mc_cd 254 1 = some (.iconst 0, 1) ∧ mc_cd 254 2 = some (.putfield 48, 3) ∧ mc_cd 254 5 = some (.aload_n 0, 1) ∧ mc_cd 254 6 = some (.aload_n 0, 1) ∧ mc_cd 254 7 = some (.iload_n 1, 1) ∧ mc_cd 254 8 = some (.invokevirtual 373, 3) ∧ mc_cd 254 11 = some (.invokevirtual 447, 3) := by decide +kernel
theorem c254_0 : mc_cd 254 0 = some (.aload_n 0, 1) := cg254_0.1
theorem c254_1 : mc_cd 254 1 = some (.iconst 0, 1) := cg254_0.2.1
theorem c254_2 : mc_cd 254 2 = some (.putfield 48, 3) := cg254_0.2.2.1
theorem c254_5 : mc_cd 254 5 = some (.aload_n 0, 1) := cg254_0.2.2.2.1
theorem c254_6 : mc_cd 254 6 = some (.aload_n 0, 1) := cg254_0.2.2.2.2.1
theorem c254_7 : mc_cd 254 7 = some (.iload_n 1, 1) := cg254_0.2.2.2.2.2.1
theorem c254_8 : mc_cd 254 8 = some (.invokevirtual 373, 3) := cg254_0.2.2.2.2.2.2.1
theorem c254_11 : mc_cd 254 11 = some (.invokevirtual 447, 3) := cg254_0.2.2.2.2.2.2.2
theorem cg254_14 : mc_cd 254 14 = some (.istore_n 3, 1) ∧ mc_cd 254 15 = some (.iload_n 3, 1) ∧ mc_cd 254 16 = some (.ifCond .le 9, 3) ∧ mc_cd 254 19 = some (.aload_n 0, 1) ∧ mc_cd 254 20 = some (.iload_n 3, 1) ∧ mc_cd 254 21 = some (.invokevirtual 54, 3) ∧ mc_cd 254 24 = some (.ireturn, 1) ∧ mc_cd 254 25 = some (.iconst 0, 1) := by decide +kernel
theorem c254_14 : mc_cd 254 14 = some (.istore_n 3, 1) := cg254_14.1
theorem c254_15 : mc_cd 254 15 = some (.iload_n 3, 1) := cg254_14.2.1
theorem c254_16 : mc_cd 254 16 = some (.ifCond .le 9, 3) := cg254_14.2.2.1
theorem c254_19 : mc_cd 254 19 = some (.aload_n 0, 1) := cg254_14.2.2.2.1
theorem c254_20 : mc_cd 254 20 = some (.iload_n 3, 1) := cg254_14.2.2.2.2.1
theorem c254_21 : mc_cd 254 21 = some (.invokevirtual 54, 3) := cg254_14.2.2.2.2.2.1
theorem c254_24 : mc_cd 254 24 = some (.ireturn, 1) := cg254_14.2.2.2.2.2.2.1
theorem c254_25 : mc_cd 254 25 = some (.iconst 0, 1) := cg254_14.2.2.2.2.2.2.2
theorem cg254_26 : mc_cd 254 26 = some (.istore 4, 2) ∧ mc_cd 254 28 = some (.iconst 0, 1) ∧ mc_cd 254 29 = some (.istore 5, 2) ∧ mc_cd 254 31 = some (.iload 5, 2) ∧ mc_cd 254 33 = some (.aload_n 0, 1) ∧ mc_cd 254 34 = some (.getfield 337, 3) ∧ mc_cd 254 37 = some (.getfield 188, 3) ∧ mc_cd 254 40 = some (.if_icmp .ge 44, 3) := by decide +kernel
theorem c254_26 : mc_cd 254 26 = some (.istore 4, 2) := cg254_26.1
theorem c254_28 : mc_cd 254 28 = some (.iconst 0, 1) := cg254_26.2.1
theorem c254_29 : mc_cd 254 29 = some (.istore 5, 2) := cg254_26.2.2.1
theorem c254_31 : mc_cd 254 31 = some (.iload 5, 2) := cg254_26.2.2.2.1
theorem c254_33 : mc_cd 254 33 = some (.aload_n 0, 1) := cg254_26.2.2.2.2.1
theorem c254_34 : mc_cd 254 34 = some (.getfield 337, 3) := cg254_26.2.2.2.2.2.1
theorem c254_37 : mc_cd 254 37 = some (.getfield 188, 3) := cg254_26.2.2.2.2.2.2.1
theorem c254_40 : mc_cd 254 40 = some (.if_icmp .ge 44, 3) := cg254_26.2.2.2.2.2.2.2
theorem cg254_43 : mc_cd 254 43 = some (.iload 4, 2) ∧ mc_cd 254 45 = some (.aload_n 0, 1) ∧ mc_cd 254 46 = some (.iload 5, 2) ∧ mc_cd 254 48 = some (.iload_n 1, 1) ∧ mc_cd 254 49 = some (.invokevirtual 444, 3) ∧ mc_cd 254 52 = some (.iload_n 2, 1) ∧ mc_cd 254 53 = some (.ifCond .eq 10, 3) ∧ mc_cd 254 56 = some (.aload_n 0, 1) := by decide +kernel
theorem c254_43 : mc_cd 254 43 = some (.iload 4, 2) := cg254_43.1
theorem c254_45 : mc_cd 254 45 = some (.aload_n 0, 1) := cg254_43.2.1
theorem c254_46 : mc_cd 254 46 = some (.iload 5, 2) := cg254_43.2.2.1
theorem c254_48 : mc_cd 254 48 = some (.iload_n 1, 1) := cg254_43.2.2.2.1
theorem c254_49 : mc_cd 254 49 = some (.invokevirtual 444, 3) := cg254_43.2.2.2.2.1
theorem c254_52 : mc_cd 254 52 = some (.iload_n 2, 1) := cg254_43.2.2.2.2.2.1
theorem c254_53 : mc_cd 254 53 = some (.ifCond .eq 10, 3) := cg254_43.2.2.2.2.2.2.1
theorem c254_56 : mc_cd 254 56 = some (.aload_n 0, 1) := cg254_43.2.2.2.2.2.2.2
theorem cg254_57 : mc_cd 254 57 = some (.getfield 422, 3) ∧ mc_cd 254 60 = some (.goto 4, 3) ∧ mc_cd 254 63 = some (.iconst 0, 1) ∧ mc_cd 254 64 = some (.if_icmp .ne 10, 3) ∧ mc_cd 254 67 = some (.iconst 1, 1) ∧ mc_cd 254 68 = some (.iload 5, 2) ∧ mc_cd 254 70 = some (.ishl, 1) ∧ mc_cd 254 71 = some (.goto 4, 3) := by decide +kernel
theorem c254_57 : mc_cd 254 57 = some (.getfield 422, 3) := cg254_57.1
theorem c254_60 : mc_cd 254 60 = some (.goto 4, 3) := cg254_57.2.1
theorem c254_63 : mc_cd 254 63 = some (.iconst 0, 1) := cg254_57.2.2.1
theorem c254_64 : mc_cd 254 64 = some (.if_icmp .ne 10, 3) := cg254_57.2.2.2.1
theorem c254_67 : mc_cd 254 67 = some (.iconst 1, 1) := cg254_57.2.2.2.2.1
theorem c254_68 : mc_cd 254 68 = some (.iload 5, 2) := cg254_57.2.2.2.2.2.1
theorem c254_70 : mc_cd 254 70 = some (.ishl, 1) := cg254_57.2.2.2.2.2.2.1
theorem c254_71 : mc_cd 254 71 = some (.goto 4, 3) := cg254_57.2.2.2.2.2.2.2
theorem cg254_74 : mc_cd 254 74 = some (.iconst 0, 1) ∧ mc_cd 254 75 = some (.ior, 1) ∧ mc_cd 254 76 = some (.istore 4, 2) ∧ mc_cd 254 78 = some (.iinc 5 1, 3) ∧ mc_cd 254 81 = some (.goto (-50), 3) ∧ mc_cd 254 84 = some (.aload_n 0, 1) ∧ mc_cd 254 85 = some (.iload 4, 2) ∧ mc_cd 254 87 = some (.invokevirtual 58, 3) := by decide +kernel
theorem c254_74 : mc_cd 254 74 = some (.iconst 0, 1) := cg254_74.1
theorem c254_75 : mc_cd 254 75 = some (.ior, 1) := cg254_74.2.1
theorem c254_76 : mc_cd 254 76 = some (.istore 4, 2) := cg254_74.2.2.1
theorem c254_78 : mc_cd 254 78 = some (.iinc 5 1, 3) := cg254_74.2.2.2.1
theorem c254_81 : mc_cd 254 81 = some (.goto (-50), 3) := cg254_74.2.2.2.2.1
theorem c254_84 : mc_cd 254 84 = some (.aload_n 0, 1) := cg254_74.2.2.2.2.2.1
theorem c254_85 : mc_cd 254 85 = some (.iload 4, 2) := cg254_74.2.2.2.2.2.2.1
theorem c254_87 : mc_cd 254 87 = some (.invokevirtual 58, 3) := cg254_74.2.2.2.2.2.2.2
theorem c254_90 : mc_cd 254 90 = some (.ireturn, 1) := by decide +kernel
/-! StrikeAwakeModel.chance(II)I -/
theorem e255 : wq_en 255 = some (9, 4, false, some FieldType.int) := rfl
theorem cg255_0 : mc_cd 255 0 = some (.aload_n 0, 1) ∧ mc_cd 255 1 = some (.iconst 0, 1) ∧ mc_cd 255 2 = some (.putfield 48, 3) ∧ mc_cd 255 5 = some (.aload_n 0, 1) ∧ mc_cd 255 6 = some (.aload_n 0, 1) ∧ mc_cd 255 7 = some (.iload_n 1, 1) ∧ mc_cd 255 8 = some (.invokevirtual 364, 3) ∧ mc_cd 255 11 = some (.ifCond .eq 15, 3) := by decide +kernel
theorem c255_0 : mc_cd 255 0 = some (.aload_n 0, 1) := cg255_0.1
theorem c255_1 : mc_cd 255 1 = some (.iconst 0, 1) := cg255_0.2.1
theorem c255_2 : mc_cd 255 2 = some (.putfield 48, 3) := cg255_0.2.2.1
theorem c255_5 : mc_cd 255 5 = some (.aload_n 0, 1) := cg255_0.2.2.2.1
theorem c255_6 : mc_cd 255 6 = some (.aload_n 0, 1) := cg255_0.2.2.2.2.1
theorem c255_7 : mc_cd 255 7 = some (.iload_n 1, 1) := cg255_0.2.2.2.2.2.1
theorem c255_8 : mc_cd 255 8 = some (.invokevirtual 364, 3) := cg255_0.2.2.2.2.2.2.1
theorem c255_11 : mc_cd 255 11 = some (.ifCond .eq 15, 3) := cg255_0.2.2.2.2.2.2.2
theorem cg255_14 : mc_cd 255 14 = some (.aload_n 0, 1) ∧ mc_cd 255 15 = some (.iload_n 2, 1) ∧ mc_cd 255 16 = some (.invokevirtual 373, 3) ∧ mc_cd 255 19 = some (.ifCond .eq 7, 3) ∧ mc_cd 255 22 = some (.iconst 1, 1) ∧ mc_cd 255 23 = some (.goto 4, 3) ∧ mc_cd 255 26 = some (.iconst 0, 1) ∧ mc_cd 255 27 = some (.invokevirtual 447, 3) := by decide +kernel
theorem c255_14 : mc_cd 255 14 = some (.aload_n 0, 1) := cg255_14.1
theorem c255_15 : mc_cd 255 15 = some (.iload_n 2, 1) := cg255_14.2.1
theorem c255_16 : mc_cd 255 16 = some (.invokevirtual 373, 3) := cg255_14.2.2.1
theorem c255_19 : mc_cd 255 19 = some (.ifCond .eq 7, 3) := cg255_14.2.2.2.1
theorem c255_22 : mc_cd 255 22 = some (.iconst 1, 1) := cg255_14.2.2.2.2.1
theorem c255_23 : mc_cd 255 23 = some (.goto 4, 3) := cg255_14.2.2.2.2.2.1
theorem c255_26 : mc_cd 255 26 = some (.iconst 0, 1) := cg255_14.2.2.2.2.2.2.1
theorem c255_27 : mc_cd 255 27 = some (.invokevirtual 447, 3) := cg255_14.2.2.2.2.2.2.2
theorem cg255_30 : mc_cd 255 30 = some (.istore_n 3, 1) ∧ mc_cd 255 31 = some (.iload_n 3, 1) ∧ mc_cd 255 32 = some (.ifCond .le 11, 3) ∧ mc_cd 255 35 = some (.aload_n 0, 1) ∧ mc_cd 255 36 = some (.iload_n 3, 1) ∧ mc_cd 255 37 = some (.invokevirtual 54, 3) ∧ mc_cd 255 40 = some (.goto 25, 3) ∧ mc_cd 255 43 = some (.aload_n 0, 1) := by decide +kernel
theorem c255_30 : mc_cd 255 30 = some (.istore_n 3, 1) := cg255_30.1
theorem c255_31 : mc_cd 255 31 = some (.iload_n 3, 1) := cg255_30.2.1
theorem c255_32 : mc_cd 255 32 = some (.ifCond .le 11, 3) := cg255_30.2.2.1
theorem c255_35 : mc_cd 255 35 = some (.aload_n 0, 1) := cg255_30.2.2.2.1
theorem c255_36 : mc_cd 255 36 = some (.iload_n 3, 1) := cg255_30.2.2.2.2.1
theorem c255_37 : mc_cd 255 37 = some (.invokevirtual 54, 3) := cg255_30.2.2.2.2.2.1
theorem c255_40 : mc_cd 255 40 = some (.goto 25, 3) := cg255_30.2.2.2.2.2.2.1
theorem c255_43 : mc_cd 255 43 = some (.aload_n 0, 1) := cg255_30.2.2.2.2.2.2.2
theorem cg255_44 : mc_cd 255 44 = some (.ldc2_w 450, 3) ∧ mc_cd 255 47 = some (.aload_n 0, 1) ∧ mc_cd 255 48 = some (.iload_n 1, 1) ∧ mc_cd 255 49 = some (.iload_n 2, 1) ∧ mc_cd 255 50 = some (.invokevirtual 440, 3) ∧ mc_cd 255 53 = some (.lmul, 1) ∧ mc_cd 255 54 = some (.aload_n 0, 1) ∧ mc_cd 255 55 = some (.iconst (-1), 1) := by decide +kernel
theorem c255_44 : mc_cd 255 44 = some (.ldc2_w 450, 3) := cg255_44.1
theorem c255_47 : mc_cd 255 47 = some (.aload_n 0, 1) := cg255_44.2.1
theorem c255_48 : mc_cd 255 48 = some (.iload_n 1, 1) := cg255_44.2.2.1
theorem c255_49 : mc_cd 255 49 = some (.iload_n 2, 1) := cg255_44.2.2.2.1
theorem c255_50 : mc_cd 255 50 = some (.invokevirtual 440, 3) := cg255_44.2.2.2.2.1
theorem c255_53 : mc_cd 255 53 = some (.lmul, 1) := cg255_44.2.2.2.2.2.1
theorem c255_54 : mc_cd 255 54 = some (.aload_n 0, 1) := cg255_44.2.2.2.2.2.2.1
theorem c255_55 : mc_cd 255 55 = some (.iconst (-1), 1) := cg255_44.2.2.2.2.2.2.2
theorem cg255_56 : mc_cd 255 56 = some (.iconst 0, 1) ∧ mc_cd 255 57 = some (.invokevirtual 440, 3) ∧ mc_cd 255 60 = some (.ldiv, 1) ∧ mc_cd 255 61 = some (.l2i, 1) ∧ mc_cd 255 62 = some (.invokevirtual 58, 3) ∧ mc_cd 255 65 = some (.ireturn, 1) := by decide +kernel
theorem c255_56 : mc_cd 255 56 = some (.iconst 0, 1) := cg255_56.1
theorem c255_57 : mc_cd 255 57 = some (.invokevirtual 440, 3) := cg255_56.2.1
theorem c255_60 : mc_cd 255 60 = some (.ldiv, 1) := cg255_56.2.2.1
theorem c255_61 : mc_cd 255 61 = some (.l2i, 1) := cg255_56.2.2.2.1
theorem c255_62 : mc_cd 255 62 = some (.invokevirtual 58, 3) := cg255_56.2.2.2.2.1
theorem c255_65 : mc_cd 255 65 = some (.ireturn, 1) := cg255_56.2.2.2.2.2
/-! StrikeAwakeModel.findLikeliest()J -/
theorem e257 : wq_en 257 = some (9, 5, false, some FieldType.long) := rfl
theorem cg257_0 : mc_cd 257 0 = some (.iconst (-1), 1) ∧ mc_cd 257 1 = some (.istore_n 1, 1) ∧ mc_cd 257 2 = some (.lconst 0, 1) ∧ mc_cd 257 3 = some (.lstore_n 2, 1) ∧ mc_cd 257 4 = some (.iconst 0, 1) ∧ mc_cd 257 5 = some (.istore 4, 2) ∧ mc_cd 257 7 = some (.iload 4, 2) ∧ mc_cd 257 9 = some (.aload_n 0, 1) := by decide +kernel
theorem c257_0 : mc_cd 257 0 = some (.iconst (-1), 1) := cg257_0.1
theorem c257_1 : mc_cd 257 1 = some (.istore_n 1, 1) := cg257_0.2.1
theorem c257_2 : mc_cd 257 2 = some (.lconst 0, 1) := cg257_0.2.2.1
theorem c257_3 : mc_cd 257 3 = some (.lstore_n 2, 1) := cg257_0.2.2.2.1
theorem c257_4 : mc_cd 257 4 = some (.iconst 0, 1) := cg257_0.2.2.2.2.1
theorem c257_5 : mc_cd 257 5 = some (.istore 4, 2) := cg257_0.2.2.2.2.2.1
theorem c257_7 : mc_cd 257 7 = some (.iload 4, 2) := cg257_0.2.2.2.2.2.2.1
theorem c257_9 : mc_cd 257 9 = some (.aload_n 0, 1) := cg257_0.2.2.2.2.2.2.2
theorem cg257_10 : mc_cd 257 10 = some (.getfield 422, 3) ∧ mc_cd 257 13 = some (.if_icmp .ge 40, 3) ∧ mc_cd 257 16 = some (.aload_n 0, 1) ∧ mc_cd 257 17 = some (.aload_n 0, 1) ∧ mc_cd 257 18 = some (.getfield 42, 3) ∧ mc_cd 257 21 = some (.iload 4, 2) ∧ mc_cd 257 23 = some (.iaload, 1) ∧ mc_cd 257 24 = some (.invokevirtual 425, 3) := by decide +kernel
theorem c257_10 : mc_cd 257 10 = some (.getfield 422, 3) := cg257_10.1
theorem c257_13 : mc_cd 257 13 = some (.if_icmp .ge 40, 3) := cg257_10.2.1
theorem c257_16 : mc_cd 257 16 = some (.aload_n 0, 1) := cg257_10.2.2.1
theorem c257_17 : mc_cd 257 17 = some (.aload_n 0, 1) := cg257_10.2.2.2.1
theorem c257_18 : mc_cd 257 18 = some (.getfield 42, 3) := cg257_10.2.2.2.2.1
theorem c257_21 : mc_cd 257 21 = some (.iload 4, 2) := cg257_10.2.2.2.2.2.1
theorem c257_23 : mc_cd 257 23 = some (.iaload, 1) := cg257_10.2.2.2.2.2.2.1
theorem c257_24 : mc_cd 257 24 = some (.invokevirtual 425, 3) := cg257_10.2.2.2.2.2.2.2
theorem cg257_27 : mc_cd 257 27 = some (.aload_n 0, 1) ∧ mc_cd 257 28 = some (.invokevirtual 437, 3) ∧ mc_cd 257 31 = some (.lload_n 2, 1) ∧ mc_cd 257 32 = some (.lcmp, 1) ∧ mc_cd 257 33 = some (.ifCond .gt 6, 3) ∧ mc_cd 257 36 = some (.goto 11, 3) ∧ mc_cd 257 39 = some (.aload_n 0, 1) ∧ mc_cd 257 40 = some (.invokevirtual 437, 3) := by decide +kernel
theorem c257_27 : mc_cd 257 27 = some (.aload_n 0, 1) := cg257_27.1
theorem c257_28 : mc_cd 257 28 = some (.invokevirtual 437, 3) := cg257_27.2.1
theorem c257_31 : mc_cd 257 31 = some (.lload_n 2, 1) := cg257_27.2.2.1
theorem c257_32 : mc_cd 257 32 = some (.lcmp, 1) := cg257_27.2.2.2.1
theorem c257_33 : mc_cd 257 33 = some (.ifCond .gt 6, 3) := cg257_27.2.2.2.2.1
theorem c257_36 : mc_cd 257 36 = some (.goto 11, 3) := cg257_27.2.2.2.2.2.1
theorem c257_39 : mc_cd 257 39 = some (.aload_n 0, 1) := cg257_27.2.2.2.2.2.2.1
theorem c257_40 : mc_cd 257 40 = some (.invokevirtual 437, 3) := cg257_27.2.2.2.2.2.2.2
theorem cg257_43 : mc_cd 257 43 = some (.lstore_n 2, 1) ∧ mc_cd 257 44 = some (.iload 4, 2) ∧ mc_cd 257 46 = some (.istore_n 1, 1) ∧ mc_cd 257 47 = some (.iinc 4 1, 3) ∧ mc_cd 257 50 = some (.goto (-43), 3) ∧ mc_cd 257 53 = some (.aload_n 0, 1) ∧ mc_cd 257 54 = some (.aload_n 0, 1) ∧ mc_cd 257 55 = some (.getfield 42, 3) := by decide +kernel
theorem c257_43 : mc_cd 257 43 = some (.lstore_n 2, 1) := cg257_43.1
theorem c257_44 : mc_cd 257 44 = some (.iload 4, 2) := cg257_43.2.1
theorem c257_46 : mc_cd 257 46 = some (.istore_n 1, 1) := cg257_43.2.2.1
theorem c257_47 : mc_cd 257 47 = some (.iinc 4 1, 3) := cg257_43.2.2.2.1
theorem c257_50 : mc_cd 257 50 = some (.goto (-43), 3) := cg257_43.2.2.2.2.1
theorem c257_53 : mc_cd 257 53 = some (.aload_n 0, 1) := cg257_43.2.2.2.2.2.1
theorem c257_54 : mc_cd 257 54 = some (.aload_n 0, 1) := cg257_43.2.2.2.2.2.2.1
theorem c257_55 : mc_cd 257 55 = some (.getfield 42, 3) := cg257_43.2.2.2.2.2.2.2
theorem cg257_58 : mc_cd 257 58 = some (.iload_n 1, 1) ∧ mc_cd 257 59 = some (.iaload, 1) ∧ mc_cd 257 60 = some (.invokevirtual 425, 3) ∧ mc_cd 257 63 = some (.lload_n 2, 1) ∧ mc_cd 257 64 = some (.lreturn, 1) := by decide +kernel
theorem c257_58 : mc_cd 257 58 = some (.iload_n 1, 1) := cg257_58.1
theorem c257_59 : mc_cd 257 59 = some (.iaload, 1) := cg257_58.2.1
theorem c257_60 : mc_cd 257 60 = some (.invokevirtual 425, 3) := cg257_58.2.2.1
theorem c257_63 : mc_cd 257 63 = some (.lload_n 2, 1) := cg257_58.2.2.2.1
theorem c257_64 : mc_cd 257 64 = some (.lreturn, 1) := cg257_58.2.2.2.2
abbrev q_257 (r0 : Nat) (pp : Nat) (T : wq_T) (H : wq_H) : Option Value → wq_T → wq_H → Prop := fun r T' H' => T = T' ∧ WT T H' ∧ wfr [(51, 999)] T H H' ∧ ∃ z : Int, some (vL z) = r ∧ (0 ≤ z ∧ z ≤ 1000000)
set_option maxHeartbeats 4000000 in
theorem s_257 {kt : Nat → Option mc_E} {T : wq_T} {H : wq_H} {r0 : Nat} {pp : Nat} (hW : WT T H) (g0 : T.2.2.2 r0 = some 42) (qpp : H r0 3 = (pp : Int)) (gpp : T.2.2.2 pp = some 54) (p0 : H r0 29 = 0 ∨ 0 < wLM H r0) (p1 : 0 < H r0 29) : wpc kt 3 257 [.ref r0] T H (q_257 r0 pp T H) := by
  refine wp_enter e257 (Nat.le_of_ble_eq_true rfl) rfl ?_
  have f0 : wfr [(51, 999)] T H H := wfr.rf
  show wp _ _ 257 0 [(0, .ref r0)] [] _ H _
  have b141942 : 0 ≤ H r0 29 ∧ H r0 29 ≤ 20000 := hW.box g0 (n := 33) rfl (by decide) rfl
  refine wp_of e257 c257_0 (rw_iconst (pc' := 1) rfl ?_)
  refine wp_of e257 c257_1 (rw_istore_n (pc' := 2) (z := -1) (L' := [(1, vI (-1)), (0, .ref r0)]) rfl rfl rfl ?_)
  refine wp_of e257 c257_2 (rw_lconst (pc' := 3) (z := 0) rfl rfl ?_)
  refine wp_of e257 c257_3 (rw_lstore_n (pc' := 4) (z := 0) (L' := [(2, vL 0), (1, vI (-1)), (0, .ref r0)]) rfl rfl rfl ?_)
  refine wp_of e257 c257_4 (rw_iconst (pc' := 5) rfl ?_)
  refine wp_of e257 c257_5 (rw_istore (pc' := 7) (z := 0) (L' := [(4, vI 0), (2, vL 0), (1, vI (-1)), (0, .ref r0)]) rfl rfl rfl ?_)
  have lp142287 : ∀ (n142288 : Nat) (v142290 : Int) (v142291 : Int) (v142292 : Int) (H142293 : wq_H), WT T H142293 → wfr [(51, 999)] T H H142293 → (0 ≤ v142290 ∧ v142290 ≤ 20000) → (0 ≤ v142291 ∧ v142291 ≤ 1000000) → ((-1) ≤ v142292 ∧ v142292 ≤ 19999) → (v142290 ≤ H142293 r0 29) → (0 ≤ v142292 ∨ (v142290 = 0 ∧ v142291 = 0)) → (20000 - v142290).toNat = n142288 → wp kt 2 257 7 [(4, vI v142290), (2, vL v142291), (1, vI v142292), (0, .ref r0)] [] T H142293 (q_257 r0 pp T H) := by
    intro n142288
    induction n142288 using Nat.strongRecOn with
    | _ n142288 ih142289 =>
      intro v142290 v142291 v142292 H142293 w142294 f142295 b142296 b142297 b142298 x142299 x142300 m142301
      have f142302 := f0.tr f142295 rfl
      have k142303 : H142293 r0 29 = H r0 29 := (f142295 r0 29 _ g0 rfl)
      refine wp_of e257 c257_7 (rw_iload (pc' := 9) (z := v142290) rfl rfl ?_)
      refine wp_of e257 c257_9 (rw_aload_n (pc' := 10) (v := .ref r0) rfl rfl rfl ?_)
      refine wp_of e257 c257_10 (xg_I (pc' := 13) lf_9_422 w142294 g0 sh_42 (by decide) (by decide) ty_42_29 rfl rfl (fun b142304 b142305 => ?_))
      refine wp_of e257 c257_13 (rw_icmp_ge (p1 := 53) (p2 := 16) (by decide) rfl ⟨by omega, by omega⟩ ⟨by omega, by omega⟩ (fun c142306 => ?_) (fun c142306 => ?_))
      · refine wp_of e257 c257_53 (rw_aload_n (pc' := 54) (v := .ref r0) rfl rfl rfl ?_)
        refine wp_of e257 c257_54 (rw_aload_n (pc' := 55) (v := .ref r0) rfl rfl rfl ?_)
        refine wp_of e257 c257_55 (xg_R (pc' := 58) lf_9_42 w142294 g0 sh_42 (by decide) (by decide) ty_42_30 rfl rfl (fun r142307 q142308 g142309 => ?_))
        refine wp_of e257 c257_58 (rw_iload_n (pc' := 59) (z := v142292) rfl rfl ?_)
        refine wp_of e257 c257_59 (xa_I (so := 0) (pc' := 60) w142294 g142309 sh_52 (by decide) (ty_52 _) (by omega) (by omega) rfl (fun b142310 b142311 => ?_))
        have k142312 : wLM H142293 r0 = wLM H r0 := (wLM_fr hW g0 f142295 rfl)
        have k142313 : H142293 r0 3 = H r0 3 := (f142295 r0 3 _ g0 rfl)
        have q142314 : H142293 r0 3 = (pp : Int) := k142313.trans qpp
        refine wp_of e257 c257_60 (xc_V (pc' := 63) (r := r0) (as := [vI (H142293 r142307 (v142292.toNat))]) (st := []) (lm_9_425) rfl rfl (Nat.le_of_ble_eq_true rfl) w142294 g0 sh_42 (by decide) rfl (by decide) (s_243 w142294 g0 ⟨by omega, by omega⟩ q142314 gpp (by omega)) (fun R142315 T142316 H142317 p142318 => ?_))
        obtain ⟨e142319, w142321, f142322, e142320⟩ := p142318
        subst e142319
        subst e142320
        have f142323 := f142302.tr f142322 rfl
        show wp _ _ 257 63 [(4, vI v142290), (2, vL v142291), (1, vI v142292), (0, .ref r0)] [] _ H142317 _
        refine wp_of e257 c257_63 (rw_lload_n (pc' := 64) (z := v142291) rfl rfl ?_)
        exact wp_lreturn e257 c257_64 rfl ⟨rfl, w142321, f142323, v142291, rfl, ⟨by omega, by omega⟩⟩
      · refine wp_of e257 c257_16 (rw_aload_n (pc' := 17) (v := .ref r0) rfl rfl rfl ?_)
        refine wp_of e257 c257_17 (rw_aload_n (pc' := 18) (v := .ref r0) rfl rfl rfl ?_)
        refine wp_of e257 c257_18 (xg_R (pc' := 21) lf_9_42 w142294 g0 sh_42 (by decide) (by decide) ty_42_30 rfl rfl (fun r142324 q142325 g142326 => ?_))
        refine wp_of e257 c257_21 (rw_iload (pc' := 23) (z := v142290) rfl rfl ?_)
        refine wp_of e257 c257_23 (xa_I (so := 0) (pc' := 24) w142294 g142326 sh_52 (by decide) (ty_52 _) (by omega) (by omega) rfl (fun b142327 b142328 => ?_))
        have k142329 : wLM H142293 r0 = wLM H r0 := (wLM_fr hW g0 f142295 rfl)
        have k142330 : H142293 r0 3 = H r0 3 := (f142295 r0 3 _ g0 rfl)
        have q142331 : H142293 r0 3 = (pp : Int) := k142330.trans qpp
        refine wp_of e257 c257_24 (xc_V (pc' := 27) (r := r0) (as := [vI (H142293 r142324 (v142290.toNat))]) (st := []) (lm_9_425) rfl rfl (Nat.le_of_ble_eq_true rfl) w142294 g0 sh_42 (by decide) rfl (by decide) (s_243 w142294 g0 ⟨by omega, by omega⟩ q142331 gpp (by omega)) (fun R142332 T142333 H142334 p142335 => ?_))
        obtain ⟨e142336, w142338, f142339, e142337⟩ := p142335
        subst e142336
        subst e142337
        have f142340 := f142302.tr f142339 rfl
        have f142341 := f142295.tr f142339 rfl
        show wp _ _ 257 27 [(4, vI v142290), (2, vL v142291), (1, vI v142292), (0, .ref r0)] [] _ H142334 _
        refine wp_of e257 c257_27 (rw_aload_n (pc' := 28) (v := .ref r0) rfl rfl rfl ?_)
        have k142342 : H142334 r0 3 = H142293 r0 3 := (f142339 r0 3 _ g0 rfl)
        have q142343 : H142334 r0 3 = (pp : Int) := k142342.trans q142331
        refine wp_of e257 c257_28 (xc_V (pc' := 31) (r := r0) (as := []) (st := []) (lm_9_437) rfl rfl (Nat.le_of_ble_eq_true rfl) w142338 g0 sh_42 (by decide) rfl (by decide) (s_248 w142338 g0 q142343 gpp) (fun R142344 T142345 H142346 p142347 => ?_))
        obtain ⟨e142348, e142350, z142351, e142349, b142352⟩ := p142347
        subst e142348
        subst e142349
        subst e142350
        show wp _ _ 257 31 [(4, vI v142290), (2, vL v142291), (1, vI v142292), (0, .ref r0)] [vL z142351] _ H142334 _
        refine wp_of e257 c257_31 (rw_lload_n (pc' := 32) (z := v142291) rfl rfl ?_)
        refine wp_of e257 c257_32 (rw_lcmp (pc' := 33) rfl ⟨by omega, by omega⟩ ⟨by omega, by omega⟩ ?_)
        have b142353 := wq_cmp_b z142351 v142291
        refine wp_of e257 c257_33 (rw_if_gt (p1 := 39) (p2 := 36) (by decide) rfl ⟨by omega, by omega⟩ (fun c142354 => ?_) (fun c142354 => ?_))
        · refine wp_of e257 c257_39 (rw_aload_n (pc' := 40) (v := .ref r0) rfl rfl rfl ?_)
          refine wp_of e257 c257_40 (xc_V (pc' := 43) (r := r0) (as := []) (st := []) (lm_9_437) rfl rfl (Nat.le_of_ble_eq_true rfl) w142338 g0 sh_42 (by decide) rfl (by decide) (s_248 w142338 g0 q142343 gpp) (fun R142355 T142356 H142357 p142358 => ?_))
          obtain ⟨e142359, e142361, z142362, e142360, b142363⟩ := p142358
          subst e142359
          subst e142360
          subst e142361
          show wp _ _ 257 43 [(4, vI v142290), (2, vL v142291), (1, vI v142292), (0, .ref r0)] [vL z142362] _ H142334 _
          refine wp_of e257 c257_43 (rw_lstore_n (pc' := 44) (z := z142362) (L' := [(2, vL z142362), (4, vI v142290), (1, vI v142292), (0, .ref r0)]) rfl rfl rfl ?_)
          refine wp_of e257 c257_44 (rw_iload (pc' := 46) (z := v142290) rfl rfl ?_)
          refine wp_of e257 c257_46 (rw_istore_n (pc' := 47) (z := v142290) (L' := [(1, vI v142290), (2, vL z142362), (4, vI v142290), (0, .ref r0)]) rfl rfl rfl ?_)
          refine wp_of e257 c257_47 (rw_iinc (pc' := 50) (z := v142290) (L' := [(4, vI (v142290 + 1)), (1, vI v142290), (2, vL z142362), (0, .ref r0)]) rfl rfl rfl rfl ?_)
          refine wp_of e257 c257_50 (rw_goto (p1 := 7) (by decide) ?_)
          have k142364 : H142334 r0 29 = H142293 r0 29 := (f142339 r0 29 _ g0 rfl)
          exact wp_lc (ks := [4, 1, 2, 0]) (wl_c rfl (wl_c rfl (wl_c rfl (wl_c rfl wl_n)))) rfl (by decide) (ih142289 _ (by omega) (v142290 + 1) z142362 v142290 H142334 w142338 f142341 ⟨by omega, by omega⟩ ⟨by omega, by omega⟩ ⟨by omega, by omega⟩ (by omega) (by omega) rfl)
        · refine wp_of e257 c257_36 (rw_goto (p1 := 47) (by decide) ?_)
          refine wp_of e257 c257_47 (rw_iinc (pc' := 50) (z := v142290) (L' := [(4, vI (v142290 + 1)), (2, vL v142291), (1, vI v142292), (0, .ref r0)]) rfl rfl rfl rfl ?_)
          refine wp_of e257 c257_50 (rw_goto (p1 := 7) (by decide) ?_)
          have k142365 : H142334 r0 29 = H142293 r0 29 := (f142339 r0 29 _ g0 rfl)
          exact wp_lc (ks := [4, 2, 1, 0]) (wl_c rfl (wl_c rfl (wl_c rfl (wl_c rfl wl_n)))) rfl (by decide) (ih142289 _ (by omega) (v142290 + 1) v142291 v142292 H142334 w142338 f142341 ⟨by omega, by omega⟩ ⟨by omega, by omega⟩ ⟨by omega, by omega⟩ (by omega) (by omega) rfl)
  exact wp_lc (ks := [4, 2, 1, 0]) (wl_c rfl (wl_c rfl (wl_c rfl (wl_c rfl wl_n)))) rfl (by decide) (lp142287 _ 0 0 (-1) H hW wfr.rf ⟨by omega, by omega⟩ ⟨by omega, by omega⟩ ⟨by omega, by omega⟩ (by omega) (by omega) rfl)
end
