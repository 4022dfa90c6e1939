/-! methods of the reference (own work, written by wip/gen2/sx.py) -/
/-! StrikeAwakeModel.done(I)I -/
theorem e209 : wq_en 209 = some (9, 2, false, some FieldType.int) := rfl
theorem cg209_0 : mc_cd 209 0 = some (.aload_n 0, 1) ∧ mc_cd 209 1 = some (.iconst 0, 1) ∧ mc_cd 209 2 = some (.putfield 51, 3) ∧ mc_cd 209 5 = some (.aload_n 0, 1) ∧ mc_cd 209 6 = some (.iconst (-1), 1) ∧ mc_cd 209 7 = some (.putfield 9, 3) ∧ mc_cd 209 10 = some (.iload_n 1, 1) ∧ mc_cd 209 11 = some (.ireturn, 1) := by decide +kernel
theorem c209_0 : mc_cd 209 0 = some (.aload_n 0, 1) := cg209_0.1
theorem c209_1 : mc_cd 209 1 = some (.iconst 0, 1) := cg209_0.2.1
theorem c209_2 : mc_cd 209 2 = some (.putfield 51, 3) := cg209_0.2.2.1
theorem c209_5 : mc_cd 209 5 = some (.aload_n 0, 1) := cg209_0.2.2.2.1
theorem c209_6 : mc_cd 209 6 = some (.iconst (-1), 1) := cg209_0.2.2.2.2.1
theorem c209_7 : mc_cd 209 7 = some (.putfield 9, 3) := cg209_0.2.2.2.2.2.1
theorem c209_10 : mc_cd 209 10 = some (.iload_n 1, 1) := cg209_0.2.2.2.2.2.2.1
theorem c209_11 : mc_cd 209 11 = some (.ireturn, 1) := cg209_0.2.2.2.2.2.2.2
abbrev q_209 (r0 : Nat) (a1 : Int) (T : wq_T) (H : wq_H) : Option Value → wq_T → wq_H → Prop := fun r T' H' => T = T' ∧ WT T H' ∧ wfr [(42, 1), (42, 2)] T H H' ∧ ∃ z : Int, some (vI z) = r ∧ ((-2147483648) ≤ z ∧ z ≤ 2147483647)
set_option maxHeartbeats 4000000 in
theorem s_209 {kt : Nat → Option mc_E} {T : wq_T} {H : wq_H} {r0 : Nat} {a1 : Int} (hW : WT T H) (g0 : T.2.2.2 r0 = some 42) (i1 : (-2147483648) ≤ a1 ∧ a1 ≤ 2147483647) : wpc kt 1 209 [.ref r0, vI a1] T H (q_209 r0 a1 T H) := by
  refine wp_enter e209 (Nat.le_of_ble_eq_true rfl) rfl ?_
  have f0 : wfr [(42, 1), (42, 2)] T H H := wfr.rf
  show wp _ _ 209 0 [(0, .ref r0), (1, vI a1)] [] _ H _
  refine wp_of e209 c209_0 (rw_aload_n (pc' := 1) (v := .ref r0) rfl rfl rfl ?_)
  refine wp_of e209 c209_1 (rw_iconst (pc' := 2) rfl ?_)
  refine wp_of e209 c209_2 (xp_I (pc' := 5) lf_9_51 hW g0 sh_42 (by decide) (by decide) ty_42_1 rfl rfl (by omega) (by omega) ⟨by omega, by omega⟩ rfl (fun H127909 e127910 w127911 => ?_))
  have f127912 := f0.put' e127910 g0 rfl
  have k127913 : H127909 r0 1 = 0 := wq_u_s e127910
  refine wp_of e209 c209_5 (rw_aload_n (pc' := 6) (v := .ref r0) rfl rfl rfl ?_)
  refine wp_of e209 c209_6 (rw_iconst (pc' := 7) rfl ?_)
  refine wp_of e209 c209_7 (xp_I (pc' := 10) lf_9_9 w127911 g0 sh_42 (by decide) (by decide) ty_42_2 rfl rfl (by omega) (by omega) ⟨by omega, by omega⟩ rfl (fun H127914 e127915 w127916 => ?_))
  have f127917 := f127912.put' e127915 g0 rfl
  have k127918 : H127914 r0 2 = -1 := wq_u_s e127915
  refine wp_of e209 c209_10 (rw_iload_n (pc' := 11) (z := a1) rfl rfl ?_)
  exact wp_ireturn e209 c209_11 rfl ⟨rfl, w127916, f127917, a1, rfl, ⟨by omega, by omega⟩⟩
/-! StrikeAwakeModel.fault()I -/
theorem e210 : wq_en 210 = some (9, 1, false, some FieldType.int) := rfl
theorem cg210_0 : mc_cd 210 0 = some (.aload_n 0, 1) ∧ mc_cd 210 1 = some (.iconst 0, 1) ∧ mc_cd 210 2 = some (.putfield 48, 3) ∧ mc_cd 210 5 = some (.aload_n 0, 1) ∧ mc_cd 210 6 = some (.getfield 104, 3) ∧ mc_cd 210 9 = some (.ireturn, 1) := by decide +kernel
theorem c210_0 : mc_cd 210 0 = some (.aload_n 0, 1) := cg210_0.1
theorem c210_1 : mc_cd 210 1 = some (.iconst 0, 1) := cg210_0.2.1
theorem c210_2 : mc_cd 210 2 = some (.putfield 48, 3) := cg210_0.2.2.1
theorem c210_5 : mc_cd 210 5 = some (.aload_n 0, 1) := cg210_0.2.2.2.1
theorem c210_6 : mc_cd 210 6 = some (.getfield 104, 3) := cg210_0.2.2.2.2.1
theorem c210_9 : mc_cd 210 9 = some (.ireturn, 1) := cg210_0.2.2.2.2.2
abbrev q_210 (r0 : Nat) (T : wq_T) (H : wq_H) : Option Value → wq_T → wq_H → Prop := fun r T' H' => T = T' ∧ WT T H' ∧ wfr [(42, 0)] T H H' ∧ ∃ z : Int, some (vI z) = r ∧ ((-2147483648) ≤ z ∧ z ≤ 2147483647) ∧ (wKI H' r0 = 1)
set_option maxHeartbeats 4000000 in
theorem s_210 {kt : Nat → Option mc_E} {T : wq_T} {H : wq_H} {r0 : Nat} (hW : WT T H) (g0 : T.2.2.2 r0 = some 42) (p0 : wKI H r0 = 1) : wpc kt 1 210 [.ref r0] T H (q_210 r0 T H) := by
  refine wp_enter e210 (Nat.le_of_ble_eq_true rfl) rfl ?_
  have f0 : wfr [(42, 0)] T H H := wfr.rf
  show wp _ _ 210 0 [(0, .ref r0)] [] _ H _
  refine wp_of e210 c210_0 (rw_aload_n (pc' := 1) (v := .ref r0) rfl rfl rfl ?_)
  refine wp_of e210 c210_1 (rw_iconst (pc' := 2) rfl ?_)
  refine wp_of e210 c210_2 (xp_I (pc' := 5) lf_9_48 hW g0 sh_42 (by decide) (by decide) ty_42_0 rfl rfl (by omega) (by omega) ⟨by omega, by omega⟩ rfl (fun H129029 e129030 w129031 => ?_))
  have f129032 := f0.put' e129030 g0 rfl
  have k129033 : H129029 r0 0 = 0 := wq_u_s e129030
  refine wp_of e210 c210_5 (rw_aload_n (pc' := 6) (v := .ref r0) rfl rfl rfl ?_)
  refine wp_of e210 c210_6 (xg_I (pc' := 9) lf_9_104 w129031 g0 sh_42 (by decide) (by decide) ty_42_13 rfl rfl (fun b129034 b129035 => ?_))
  have k129036 : wKI H129029 r0 = wKI H r0 := (wKI_fr hW g0 ((wfr.rf (l := [(42, 0)])).put' e129030 g0 rfl) rfl)
  exact wp_ireturn e210 c210_9 rfl ⟨rfl, w129031, f129032, H129029 r0 13, rfl, ⟨by omega, by omega⟩, by omega⟩
/-! StrikeAwakeModel.where()I -/
theorem e211 : wq_en 211 = some (9, 1, false, some FieldType.int) := rfl
theorem cg211_0 : mc_cd 211 0 = some (.aload_n 0, 1) ∧ mc_cd 211 1 = some (.iconst 0, 1) ∧ mc_cd 211 2 = some (.putfield 48, 3) ∧ mc_cd 211 5 = some (.aload_n 0, 1) ∧ mc_cd 211 6 = some (.getfield 9, 3) ∧ mc_cd 211 9 = some (.ireturn, 1) := by decide +kernel
theorem c211_0 : mc_cd 211 0 = some (.aload_n 0, 1) := cg211_0.1
theorem c211_1 : mc_cd 211 1 = some (.iconst 0, 1) := cg211_0.2.1
theorem c211_2 : mc_cd 211 2 = some (.putfield 48, 3) := cg211_0.2.2.1
theorem c211_5 : mc_cd 211 5 = some (.aload_n 0, 1) := cg211_0.2.2.2.1
theorem c211_6 : mc_cd 211 6 = some (.getfield 9, 3) := cg211_0.2.2.2.2.1
theorem c211_9 : mc_cd 211 9 = some (.ireturn, 1) := cg211_0.2.2.2.2.2
abbrev q_211 (r0 : Nat) (T : wq_T) (H : wq_H) : Option Value → wq_T → wq_H → Prop := fun r T' H' => T = T' ∧ WT T H' ∧ wfr [(42, 0)] T H H' ∧ ∃ z : Int, some (vI z) = r ∧ ((-2147483648) ≤ z ∧ z ≤ 2147483647) ∧ (wKI H' r0 = 1)
set_option maxHeartbeats 4000000 in
theorem s_211 {kt : Nat → Option mc_E} {T : wq_T} {H : wq_H} {r0 : Nat} (hW : WT T H) (g0 : T.2.2.2 r0 = some 42) (p0 : wKI H r0 = 1) : wpc kt 1 211 [.ref r0] T H (q_211 r0 T H) := by
  refine wp_enter e211 (Nat.le_of_ble_eq_true rfl) rfl ?_
  have f0 : wfr [(42, 0)] T H H := wfr.rf
  show wp _ _ 211 0 [(0, .ref r0)] [] _ H _
  refine wp_of e211 c211_0 (rw_aload_n (pc' := 1) (v := .ref r0) rfl rfl rfl ?_)
  refine wp_of e211 c211_1 (rw_iconst (pc' := 2) rfl ?_)
  refine wp_of e211 c211_2 (xp_I (pc' := 5) lf_9_48 hW g0 sh_42 (by decide) (by decide) ty_42_0 rfl rfl (by omega) (by omega) ⟨by omega, by omega⟩ rfl (fun H129045 e129046 w129047 => ?_))
  have f129048 := f0.put' e129046 g0 rfl
  have k129049 : H129045 r0 0 = 0 := wq_u_s e129046
  refine wp_of e211 c211_5 (rw_aload_n (pc' := 6) (v := .ref r0) rfl rfl rfl ?_)
  refine wp_of e211 c211_6 (xg_I (pc' := 9) lf_9_9 w129047 g0 sh_42 (by decide) (by decide) ty_42_2 rfl rfl (fun b129050 b129051 => ?_))
  have k129052 : wKI H129045 r0 = wKI H r0 := (wKI_fr hW g0 ((wfr.rf (l := [(42, 0)])).put' e129046 g0 rfl) rfl)
  exact wp_ireturn e211 c211_9 rfl ⟨rfl, w129047, f129048, H129045 r0 2, rfl, ⟨by omega, by omega⟩, by omega⟩
/-! StrikeAwakeModel.isPerson(I)Z -/
theorem e213 : wq_en 213 = some (9, 2, false, some FieldType.boolean) := rfl
theorem cg213_0 : mc_cd 213 0 = some (.aload_n 0, 1) ∧ mc_cd 213 1 = some (.getfield 337, 3) ∧ mc_cd 213 4 = some (.ifnull 22, 3) ∧ mc_cd 213 7 = some (.iload_n 1, 1) ∧ mc_cd 213 8 = some (.ifCond .lt 18, 3) ∧ mc_cd 213 11 = some (.iload_n 1, 1) ∧ mc_cd 213 12 = some (.aload_n 0, 1) ∧ mc_cd 213 13 = some (.getfield 337, 3) := by decide +kernel
theorem c213_0 : mc_cd 213 0 = some (.aload_n 0, 1) := cg213_0.1
theorem c213_1 : mc_cd 213 1 = some (.getfield 337, 3) := cg213_0.2.1
theorem c213_4 : mc_cd 213 4 = some (.ifnull 22, 3) := cg213_0.2.2.1
theorem c213_7 : mc_cd 213 7 = some (.iload_n 1, 1) := cg213_0.2.2.2.1
theorem c213_8 : mc_cd 213 8 = some (.ifCond .lt 18, 3) := cg213_0.2.2.2.2.1
theorem c213_11 : mc_cd 213 11 = some (.iload_n 1, 1) := cg213_0.2.2.2.2.2.1
theorem c213_12 : mc_cd 213 12 = some (.aload_n 0, 1) := cg213_0.2.2.2.2.2.2.1
theorem c213_13 : mc_cd 213 13 = some (.getfield 337, 3) := cg213_0.2.2.2.2.2.2.2
theorem cg213_16 : mc_cd 213 16 = some (.getfield 188, 3) ∧ mc_cd 213 19 = some (.if_icmp .ge 7, 3) ∧ mc_cd 213 22 = some (.iconst 1, 1) ∧ mc_cd 213 23 = some (.goto 4, 3) ∧ mc_cd 213 26 = some (.iconst 0, 1) ∧ mc_cd 213 27 = some (.ireturn, 1) := by decide +kernel
theorem c213_16 : mc_cd 213 16 = some (.getfield 188, 3) := cg213_16.1
theorem c213_19 : mc_cd 213 19 = some (.if_icmp .ge 7, 3) := cg213_16.2.1
theorem c213_22 : mc_cd 213 22 = some (.iconst 1, 1) := cg213_16.2.2.1
theorem c213_23 : mc_cd 213 23 = some (.goto 4, 3) := cg213_16.2.2.2.1
theorem c213_26 : mc_cd 213 26 = some (.iconst 0, 1) := cg213_16.2.2.2.2.1
theorem c213_27 : mc_cd 213 27 = some (.ireturn, 1) := cg213_16.2.2.2.2.2
abbrev q_213 (r0 : Nat) (a1 : Int) (T : wq_T) (H : wq_H) : Option Value → wq_T → wq_H → Prop := fun r T' H' => T = T' ∧ H = H' ∧ ∃ z : Int, some (vI z) = r ∧ (0 ≤ z ∧ z ≤ 1) ∧ (z = 0 ∨ (H r0 3 ≠ -1 ∧ 0 ≤ a1 ∧ a1 ≤ 5))
set_option maxHeartbeats 4000000 in
theorem s_213 {kt : Nat → Option mc_E} {T : wq_T} {H : wq_H} {r0 : Nat} {a1 : Int} (hW : WT T H) (g0 : T.2.2.2 r0 = some 42) (i1 : (-2147483648) ≤ a1 ∧ a1 ≤ 2147483647) : wpc kt 1 213 [.ref r0, vI a1] T H (q_213 r0 a1 T H) := by
  refine wp_enter e213 (Nat.le_of_ble_eq_true rfl) rfl ?_
  show wp _ _ 213 0 [(0, .ref r0), (1, vI a1)] [] _ H _
  refine wp_of e213 c213_0 (rw_aload_n (pc' := 1) (v := .ref r0) rfl rfl rfl ?_)
  refine wp_of e213 c213_1 (xg_O (pc' := 4) lf_9_337 hW g0 sh_42 (by decide) (by decide) ty_42_3 rfl rfl (fun q129061 => ?_) (fun r129060 q129061 g129062 => ?_))
  · refine wp_of e213 c213_4 (rw_ifnull_n (p1 := 26) (p2 := 7) (by decide) rfl ?_)
    refine wp_of e213 c213_26 (rw_iconst (pc' := 27) rfl ?_)
    exact wp_zreturn e213 c213_27 rfl (by omega) ⟨rfl, rfl, 0, rfl, ⟨by omega, by omega⟩, by omega⟩
  · refine wp_of e213 c213_4 (rw_ifnull_r (p1 := 26) (p2 := 7) (by decide) rfl ?_)
    refine wp_of e213 c213_7 (rw_iload_n (pc' := 8) (z := a1) rfl rfl ?_)
    refine wp_of e213 c213_8 (rw_if_lt (p1 := 26) (p2 := 11) (by decide) rfl ⟨by omega, by omega⟩ (fun c129063 => ?_) (fun c129063 => ?_))
    · refine wp_of e213 c213_26 (rw_iconst (pc' := 27) rfl ?_)
      exact wp_zreturn e213 c213_27 rfl (by omega) ⟨rfl, rfl, 0, rfl, ⟨by omega, by omega⟩, by omega⟩
    · refine wp_of e213 c213_11 (rw_iload_n (pc' := 12) (z := a1) rfl rfl ?_)
      refine wp_of e213 c213_12 (rw_aload_n (pc' := 13) (v := .ref r0) rfl rfl rfl ?_)
      refine wp_of e213 c213_13 (xg_K (pc' := 16) lf_9_337 hW g0 sh_42 (by decide) (by decide) rfl q129061 rfl ?_)
      refine wp_of e213 c213_16 (xg_I (pc' := 19) lf_9_188 hW g129062 sh_54 (by decide) (by decide) ty_54_3 rfl rfl (fun b129064 b129065 => ?_))
      refine wp_of e213 c213_19 (rw_icmp_ge (p1 := 26) (p2 := 22) (by decide) rfl ⟨by omega, by omega⟩ ⟨by omega, by omega⟩ (fun c129066 => ?_) (fun c129066 => ?_))
      · refine wp_of e213 c213_26 (rw_iconst (pc' := 27) rfl ?_)
        exact wp_zreturn e213 c213_27 rfl (by omega) ⟨rfl, rfl, 0, rfl, ⟨by omega, by omega⟩, by omega⟩
      · refine wp_of e213 c213_22 (rw_iconst (pc' := 23) rfl ?_)
        refine wp_of e213 c213_23 (rw_goto (p1 := 27) (by decide) ?_)
        exact wp_zreturn e213 c213_27 rfl (by omega) ⟨rfl, rfl, 1, rfl, ⟨by omega, by omega⟩, by omega⟩
/-! StrikeAwakeModel.spans(I)I -/
theorem e212 : wq_en 212 = some (9, 2, false, some FieldType.int) := rfl
theorem cg212_0 : mc_cd 212 0 = some (.aload_n 0, 1) ∧ mc_cd 212 1 = some (.iconst 0, 1) ∧ mc_cd 212 2 = some (.putfield 48, 3) ∧ mc_cd 212 5 = some (.aload_n 0, 1) ∧ mc_cd 212 6 = some (.iload_n 1, 1) ∧ mc_cd 212 7 = some (.invokevirtual 364, 3) ∧ mc_cd 212 10 = some (.ifCond .eq 16, 3) ∧ mc_cd 212 13 = some (.aload_n 0, 1) := by decide +kernel
theorem c212_0 : mc_cd 212 0 = some (.aload_n 0, 1) := cg212_0.1
theorem c212_1 : mc_cd 212 1 = some (.iconst 0, 1) := cg212_0.2.1
theorem c212_2 : mc_cd 212 2 = some (.putfield 48, 3) := cg212_0.2.2.1
theorem c212_5 : mc_cd 212 5 = some (.aload_n 0, 1) := cg212_0.2.2.2.1
theorem c212_6 : mc_cd 212 6 = some (.iload_n 1, 1) := cg212_0.2.2.2.2.1
theorem c212_7 : mc_cd 212 7 = some (.invokevirtual 364, 3) := cg212_0.2.2.2.2.2.1
theorem c212_10 : mc_cd 212 10 = some (.ifCond .eq 16, 3) := cg212_0.2.2.2.2.2.2.1
theorem c212_13 : mc_cd 212 13 = some (.aload_n 0, 1) := cg212_0.2.2.2.2.2.2.2
theorem cg212_14 : mc_cd 212 14 = some (.aload_n 0, 1) ∧ mc_cd 212 15 = some (.getfield 21, 3) ∧ mc_cd 212 18 = some (.iload_n 1, 1) ∧ mc_cd 212 19 = some (.iaload, 1) ∧ mc_cd 212 20 = some (.invokevirtual 58, 3) ∧ mc_cd 212 23 = some (.goto 8, 3) ∧ mc_cd 212 26 = some (.aload_n 0, 1) ∧ mc_cd 212 27 = some (.iconst 1, 1) := by decide +kernel
theorem c212_14 : mc_cd 212 14 = some (.aload_n 0, 1) := cg212_14.1
theorem c212_15 : mc_cd 212 15 = some (.getfield 21, 3) := cg212_14.2.1
theorem c212_18 : mc_cd 212 18 = some (.iload_n 1, 1) := cg212_14.2.2.1
theorem c212_19 : mc_cd 212 19 = some (.iaload, 1) := cg212_14.2.2.2.1
theorem c212_20 : mc_cd 212 20 = some (.invokevirtual 58, 3) := cg212_14.2.2.2.2.1
theorem c212_23 : mc_cd 212 23 = some (.goto 8, 3) := cg212_14.2.2.2.2.2.1
theorem c212_26 : mc_cd 212 26 = some (.aload_n 0, 1) := cg212_14.2.2.2.2.2.2.1
theorem c212_27 : mc_cd 212 27 = some (.iconst 1, 1) := cg212_14.2.2.2.2.2.2.2
theorem cg212_28 : mc_cd 212 28 = some (.invokevirtual 54, 3) ∧ mc_cd 212 31 = some (.ireturn, 1) := by decide +kernel
theorem c212_28 : mc_cd 212 28 = some (.invokevirtual 54, 3) := cg212_28.1
theorem c212_31 : mc_cd 212 31 = some (.ireturn, 1) := cg212_28.2
abbrev q_212 (r0 : Nat) (a1 : Int) (T : wq_T) (H : wq_H) : Option Value → wq_T → wq_H → Prop := fun r T' H' => T = T' ∧ WT T H' ∧ wfr [(42, 0), (42, 1), (42, 2)] T H H' ∧ ∃ z : Int, some (vI z) = r ∧ ((-2147483648) ≤ z ∧ z ≤ 2147483647) ∧ (wKI H' r0 = 1)
set_option maxHeartbeats 4000000 in
theorem s_212 {kt : Nat → Option mc_E} {T : wq_T} {H : wq_H} {r0 : Nat} {a1 : Int} (hW : WT T H) (g0 : T.2.2.2 r0 = some 42) (i1 : (-2147483648) ≤ a1 ∧ a1 ≤ 2147483647) (p0 : wKI H r0 = 1) : wpc kt 2 212 [.ref r0, vI a1] T H (q_212 r0 a1 T H) := by
  refine wp_enter e212 (Nat.le_of_ble_eq_true rfl) rfl ?_
  have f0 : wfr [(42, 0), (42, 1), (42, 2)] T H H := wfr.rf
  show wp _ _ 212 0 [(0, .ref r0), (1, vI a1)] [] _ H _
  refine wp_of e212 c212_0 (rw_aload_n (pc' := 1) (v := .ref r0) rfl rfl rfl ?_)
  refine wp_of e212 c212_1 (rw_iconst (pc' := 2) rfl ?_)
  refine wp_of e212 c212_2 (xp_I (pc' := 5) lf_9_48 hW g0 sh_42 (by decide) (by decide) ty_42_0 rfl rfl (by omega) (by omega) ⟨by omega, by omega⟩ rfl (fun H129112 e129113 w129114 => ?_))
  have f129115 := f0.put' e129113 g0 rfl
  have k129116 : H129112 r0 0 = 0 := wq_u_s e129113
  refine wp_of e212 c212_5 (rw_aload_n (pc' := 6) (v := .ref r0) rfl rfl rfl ?_)
  refine wp_of e212 c212_6 (rw_iload_n (pc' := 7) (z := a1) rfl rfl ?_)
  refine wp_of e212 c212_7 (xc_V (pc' := 10) (r := r0) (as := [vI a1]) (st := []) (lm_9_364) rfl rfl (Nat.le_of_ble_eq_true rfl) w129114 g0 sh_42 (by decide) rfl (by decide) (s_213 w129114 g0 ⟨by omega, by omega⟩) (fun R129117 T129118 H129119 p129120 => ?_))
  obtain ⟨e129121, e129123, z129125, e129122, b129126, p129124⟩ := p129120
  subst e129121
  subst e129122
  subst e129123
  show wp _ _ 212 10 [(0, .ref r0), (1, vI a1)] [vI z129125] _ H129112 _
  refine wp_of e212 c212_10 (rw_if_eq (p1 := 26) (p2 := 13) (by decide) rfl ⟨by omega, by omega⟩ (fun c129127 => ?_) (fun c129127 => ?_))
  · refine wp_of e212 c212_26 (rw_aload_n (pc' := 27) (v := .ref r0) rfl rfl rfl ?_)
    refine wp_of e212 c212_27 (rw_iconst (pc' := 28) rfl ?_)
    refine wp_of e212 c212_28 (xc_V (pc' := 31) (r := r0) (as := [vI 1]) (st := []) (lm_9_54) rfl rfl (Nat.le_of_ble_eq_true rfl) w129114 g0 sh_42 (by decide) rfl (by decide) (s_170 w129114 g0 ⟨by omega, by omega⟩) (fun R129128 T129129 H129130 p129131 => ?_))
    obtain ⟨e129132, w129134, f129135, z129136, e129133, b129137⟩ := p129131
    subst e129132
    subst e129133
    have f129138 := f129115.tr f129135 rfl
    show wp _ _ 212 31 [(0, .ref r0), (1, vI a1)] [vI z129136] _ H129130 _
    have k129139 : wKI H129130 r0 = wKI H r0 := ((wKI_fr w129114 g0 f129135 rfl).trans (wKI_fr hW g0 ((wfr.rf (l := [(42, 0)])).put' e129113 g0 rfl) rfl))
    exact wp_ireturn e212 c212_31 rfl ⟨rfl, w129134, f129138, z129136, rfl, ⟨by omega, by omega⟩, by omega⟩
  · refine wp_of e212 c212_13 (rw_aload_n (pc' := 14) (v := .ref r0) rfl rfl rfl ?_)
    refine wp_of e212 c212_14 (rw_aload_n (pc' := 15) (v := .ref r0) rfl rfl rfl ?_)
    refine wp_of e212 c212_15 (xg_R (pc' := 18) lf_9_21 w129114 g0 sh_42 (by decide) (by decide) ty_42_21 rfl rfl (fun r129140 q129141 g129142 => ?_))
    refine wp_of e212 c212_18 (rw_iload_n (pc' := 19) (z := a1) rfl rfl ?_)
    refine wp_of e212 c212_19 (xa_I (so := 0) (pc' := 20) w129114 g129142 sh_45 (by decide) (ty_45 _) (by omega) (by omega) rfl (fun b129143 b129144 => ?_))
    refine wp_of e212 c212_20 (xc_V (pc' := 23) (r := r0) (as := [vI (H129112 r129140 (a1.toNat))]) (st := []) (lm_9_58) rfl rfl (Nat.le_of_ble_eq_true rfl) w129114 g0 sh_42 (by decide) rfl (by decide) (s_209 w129114 g0 ⟨by omega, by omega⟩) (fun R129145 T129146 H129147 p129148 => ?_))
    obtain ⟨e129149, w129151, f129152, z129153, e129150, b129154⟩ := p129148
    subst e129149
    subst e129150
    have f129155 := f129115.tr f129152 rfl
    show wp _ _ 212 23 [(0, .ref r0), (1, vI a1)] [vI z129153] _ H129147 _
    refine wp_of e212 c212_23 (rw_goto (p1 := 31) (by decide) ?_)
    have k129156 : wKI H129147 r0 = wKI H r0 := ((wKI_fr w129114 g0 f129152 rfl).trans (wKI_fr hW g0 ((wfr.rf (l := [(42, 0)])).put' e129113 g0 rfl) rfl))
    exact wp_ireturn e212 c212_31 rfl ⟨rfl, w129151, f129155, z129153, rfl, ⟨by omega, by omega⟩, by omega⟩
/-! StrikeAwakeModel.isSpan(II)Z -/
theorem e215 : wq_en 215 = some (9, 3, false, some FieldType.boolean) := rfl
theorem cg215_0 : mc_cd 215 0 = some (.aload_n 0, 1) ∧ mc_cd 215 1 = some (.iload_n 1, 1) ∧ mc_cd 215 2 = some (.invokevirtual 364, 3) ∧ mc_cd 215 5 = some (.ifCond .eq 21, 3) ∧ mc_cd 215 8 = some (.iload_n 2, 1) ∧ mc_cd 215 9 = some (.ifCond .lt 17, 3) ∧ mc_cd 215 12 = some (.iload_n 2, 1) ∧ mc_cd 215 13 = some (.aload_n 0, 1) := by decide +kernel
theorem c215_0 : mc_cd 215 0 = some (.aload_n 0, 1) := cg215_0.1
theorem c215_1 : mc_cd 215 1 = some (.iload_n 1, 1) := cg215_0.2.1
theorem c215_2 : mc_cd 215 2 = some (.invokevirtual 364, 3) := cg215_0.2.2.1
theorem c215_5 : mc_cd 215 5 = some (.ifCond .eq 21, 3) := cg215_0.2.2.2.1
theorem c215_8 : mc_cd 215 8 = some (.iload_n 2, 1) := cg215_0.2.2.2.2.1
theorem c215_9 : mc_cd 215 9 = some (.ifCond .lt 17, 3) := cg215_0.2.2.2.2.2.1
theorem c215_12 : mc_cd 215 12 = some (.iload_n 2, 1) := cg215_0.2.2.2.2.2.2.1
theorem c215_13 : mc_cd 215 13 = some (.aload_n 0, 1) := cg215_0.2.2.2.2.2.2.2
theorem cg215_14 : mc_cd 215 14 = some (.getfield 21, 3) ∧ mc_cd 215 17 = some (.iload_n 1, 1) ∧ mc_cd 215 18 = some (.iaload, 1) ∧ mc_cd 215 19 = some (.if_icmp .ge 7, 3) ∧ mc_cd 215 22 = some (.iconst 1, 1) ∧ mc_cd 215 23 = some (.goto 4, 3) ∧ mc_cd 215 26 = some (.iconst 0, 1) ∧ mc_cd 215 27 = some (.ireturn, 1) := by decide +kernel
theorem c215_14 : mc_cd 215 14 = some (.getfield 21, 3) := cg215_14.1
theorem c215_17 : mc_cd 215 17 = some (.iload_n 1, 1) := cg215_14.2.1
theorem c215_18 : mc_cd 215 18 = some (.iaload, 1) := cg215_14.2.2.1
theorem c215_19 : mc_cd 215 19 = some (.if_icmp .ge 7, 3) := cg215_14.2.2.2.1
theorem c215_22 : mc_cd 215 22 = some (.iconst 1, 1) := cg215_14.2.2.2.2.1
theorem c215_23 : mc_cd 215 23 = some (.goto 4, 3) := cg215_14.2.2.2.2.2.1
theorem c215_26 : mc_cd 215 26 = some (.iconst 0, 1) := cg215_14.2.2.2.2.2.2.1
theorem c215_27 : mc_cd 215 27 = some (.ireturn, 1) := cg215_14.2.2.2.2.2.2.2
abbrev q_215 (r0 : Nat) (a1 : Int) (a2 : Int) (T : wq_T) (H : wq_H) : Option Value → wq_T → wq_H → Prop := fun r T' H' => T = T' ∧ H = H' ∧ ∃ z : Int, some (vI z) = r ∧ (0 ≤ z ∧ z ≤ 1) ∧ (z = 0 ∨ (H r0 3 ≠ -1 ∧ 0 ≤ a1 ∧ a1 ≤ 5 ∧ 0 ≤ a2 ∧ a2 ≤ 39))
set_option maxHeartbeats 4000000 in
theorem s_215 {kt : Nat → Option mc_E} {T : wq_T} {H : wq_H} {r0 : Nat} {a1 : Int} {a2 : Int} (hW : WT T H) (g0 : T.2.2.2 r0 = some 42) (i1 : (-2147483648) ≤ a1 ∧ a1 ≤ 2147483647) (i2 : (-2147483648) ≤ a2 ∧ a2 ≤ 2147483647) : wpc kt 2 215 [.ref r0, vI a1, vI a2] T H (q_215 r0 a1 a2 T H) := by
  refine wp_enter e215 (Nat.le_of_ble_eq_true rfl) rfl ?_
  show wp _ _ 215 0 [(0, .ref r0), (1, vI a1), (2, vI a2)] [] _ H _
  refine wp_of e215 c215_0 (rw_aload_n (pc' := 1) (v := .ref r0) rfl rfl rfl ?_)
  refine wp_of e215 c215_1 (rw_iload_n (pc' := 2) (z := a1) rfl rfl ?_)
  refine wp_of e215 c215_2 (xc_V (pc' := 5) (r := r0) (as := [vI a1]) (st := []) (lm_9_364) rfl rfl (Nat.le_of_ble_eq_true rfl) hW g0 sh_42 (by decide) rfl (by decide) (s_213 hW g0 ⟨by omega, by omega⟩) (fun R129175 T129176 H129177 p129178 => ?_))
  obtain ⟨e129179, e129181, z129183, e129180, b129184, p129182⟩ := p129178
  subst e129179
  subst e129180
  subst e129181
  show wp _ _ 215 5 [(0, .ref r0), (1, vI a1), (2, vI a2)] [vI z129183] _ H _
  refine wp_of e215 c215_5 (rw_if_eq (p1 := 26) (p2 := 8) (by decide) rfl ⟨by omega, by omega⟩ (fun c129185 => ?_) (fun c129185 => ?_))
  · refine wp_of e215 c215_26 (rw_iconst (pc' := 27) rfl ?_)
    exact wp_zreturn e215 c215_27 rfl (by omega) ⟨rfl, rfl, 0, rfl, ⟨by omega, by omega⟩, by omega⟩
  · refine wp_of e215 c215_8 (rw_iload_n (pc' := 9) (z := a2) rfl rfl ?_)
    refine wp_of e215 c215_9 (rw_if_lt (p1 := 26) (p2 := 12) (by decide) rfl ⟨by omega, by omega⟩ (fun c129186 => ?_) (fun c129186 => ?_))
    · refine wp_of e215 c215_26 (rw_iconst (pc' := 27) rfl ?_)
      exact wp_zreturn e215 c215_27 rfl (by omega) ⟨rfl, rfl, 0, rfl, ⟨by omega, by omega⟩, by omega⟩
    · refine wp_of e215 c215_12 (rw_iload_n (pc' := 13) (z := a2) rfl rfl ?_)
      refine wp_of e215 c215_13 (rw_aload_n (pc' := 14) (v := .ref r0) rfl rfl rfl ?_)
      refine wp_of e215 c215_14 (xg_R (pc' := 17) lf_9_21 hW g0 sh_42 (by decide) (by decide) ty_42_21 rfl rfl (fun r129187 q129188 g129189 => ?_))
      refine wp_of e215 c215_17 (rw_iload_n (pc' := 18) (z := a1) rfl rfl ?_)
      refine wp_of e215 c215_18 (xa_I (so := 0) (pc' := 19) hW g129189 sh_45 (by decide) (ty_45 _) (by omega) (by omega) rfl (fun b129190 b129191 => ?_))
      refine wp_of e215 c215_19 (rw_icmp_ge (p1 := 26) (p2 := 22) (by decide) rfl ⟨by omega, by omega⟩ ⟨by omega, by omega⟩ (fun c129192 => ?_) (fun c129192 => ?_))
      · refine wp_of e215 c215_26 (rw_iconst (pc' := 27) rfl ?_)
        exact wp_zreturn e215 c215_27 rfl (by omega) ⟨rfl, rfl, 0, rfl, ⟨by omega, by omega⟩, by omega⟩
      · refine wp_of e215 c215_22 (rw_iconst (pc' := 23) rfl ?_)
        refine wp_of e215 c215_23 (rw_goto (p1 := 27) (by decide) ?_)
        exact wp_zreturn e215 c215_27 rfl (by omega) ⟨rfl, rfl, 1, rfl, ⟨by omega, by omega⟩, by omega⟩
/-! StrikeAwakeModel.weightOf(II)I -/
theorem e216 : wq_en 216 = some (9, 5, false, some FieldType.int) := rfl
theorem cg216_0 : mc_cd 216 0 = some (.aload_n 0, 1) ∧ mc_cd 216 1 = some (.getfield 337, 3) ∧ mc_cd 216 4 = some (.getfield 259, 3) ∧ mc_cd 216 7 = some (.iload_n 1, 1) ∧ mc_cd 216 8 = some (.iaload, 1) ∧ mc_cd 216 9 = some (.iconst (-1), 1) ∧ mc_cd 216 10 = some (.if_icmp .ne 5, 3) ∧ mc_cd 216 13 = some (.iconst 1, 1) := by decide +kernel
theorem c216_0 : mc_cd 216 0 = some (.aload_n 0, 1) := cg216_0.1
theorem c216_1 : mc_cd 216 1 = some (.getfield 337, 3) := cg216_0.2.1
theorem c216_4 : mc_cd 216 4 = some (.getfield 259, 3) := cg216_0.2.2.1
theorem c216_7 : mc_cd 216 7 = some (.iload_n 1, 1) := cg216_0.2.2.2.1
theorem c216_8 : mc_cd 216 8 = some (.iaload, 1) := cg216_0.2.2.2.2.1
theorem c216_9 : mc_cd 216 9 = some (.iconst (-1), 1) := cg216_0.2.2.2.2.2.1
theorem c216_10 : mc_cd 216 10 = some (.if_icmp .ne 5, 3) := cg216_0.2.2.2.2.2.2.1
theorem c216_13 : mc_cd 216 13 = some (.iconst 1, 1) := cg216_0.2.2.2.2.2.2.2
theorem cg216_14 : mc_cd 216 14 = some (.ireturn, 1) ∧ mc_cd 216 15 = some (.aload_n 0, 1) ∧ mc_cd 216 16 = some (.getfield 24, 3) ∧ mc_cd 216 19 = some (.bipush 40, 2) ∧ mc_cd 216 21 = some (.iload_n 1, 1) ∧ mc_cd 216 22 = some (.imul, 1) ∧ mc_cd 216 23 = some (.iload_n 2, 1) ∧ mc_cd 216 24 = some (.iadd, 1) := by decide +kernel
theorem c216_14 : mc_cd 216 14 = some (.ireturn, 1) := cg216_14.1
theorem c216_15 : mc_cd 216 15 = some (.aload_n 0, 1) := cg216_14.2.1
theorem c216_16 : mc_cd 216 16 = some (.getfield 24, 3) := cg216_14.2.2.1
theorem c216_19 : mc_cd 216 19 = some (.bipush 40, 2) := cg216_14.2.2.2.1
theorem c216_21 : mc_cd 216 21 = some (.iload_n 1, 1) := cg216_14.2.2.2.2.1
theorem c216_22 : mc_cd 216 22 = some (.imul, 1) := cg216_14.2.2.2.2.2.1
theorem c216_23 : mc_cd 216 23 = some (.iload_n 2, 1) := cg216_14.2.2.2.2.2.2.1
theorem c216_24 : mc_cd 216 24 = some (.iadd, 1) := cg216_14.2.2.2.2.2.2.2
theorem cg216_25 : mc_cd 216 25 = some (.iaload, 1) ∧ mc_cd 216 26 = some (.aload_n 0, 1) ∧ mc_cd 216 27 = some (.getfield 337, 3) ∧ mc_cd 216 30 = some (.getfield 259, 3) ∧ mc_cd 216 33 = some (.iload_n 1, 1) ∧ mc_cd 216 34 = some (.iaload, 1) ∧ mc_cd 216 35 = some (.isub, 1) ∧ mc_cd 216 36 = some (.istore_n 3, 1) := by decide +kernel
theorem c216_25 : mc_cd 216 25 = some (.iaload, 1) := cg216_25.1
theorem c216_26 : mc_cd 216 26 = some (.aload_n 0, 1) := cg216_25.2.1
theorem c216_27 : mc_cd 216 27 = some (.getfield 337, 3) := cg216_25.2.2.1
theorem c216_30 : mc_cd 216 30 = some (.getfield 259, 3) := cg216_25.2.2.2.1
theorem c216_33 : mc_cd 216 33 = some (.iload_n 1, 1) := cg216_25.2.2.2.2.1
theorem c216_34 : mc_cd 216 34 = some (.iaload, 1) := cg216_25.2.2.2.2.2.1
theorem c216_35 : mc_cd 216 35 = some (.isub, 1) := cg216_25.2.2.2.2.2.2.1
theorem c216_36 : mc_cd 216 36 = some (.istore_n 3, 1) := cg216_25.2.2.2.2.2.2.2
theorem cg216_37 : mc_cd 216 37 = some (.bipush 10, 2) ∧ mc_cd 216 39 = some (.iload_n 3, 1) ∧ mc_cd 216 40 = some (.ifCond .ge 8, 3) ∧ mc_cd 216 43 = some (.iload_n 3, 1) ∧ mc_cd 216 44 = some (.ineg, 1) ∧ mc_cd 216 45 = some (.goto 4, 3) ∧ mc_cd 216 48 = some (.iload_n 3, 1) ∧ mc_cd 216 49 = some (.isub, 1) := by decide +kernel
theorem c216_37 : mc_cd 216 37 = some (.bipush 10, 2) := cg216_37.1
theorem c216_39 : mc_cd 216 39 = some (.iload_n 3, 1) := cg216_37.2.1
theorem c216_40 : mc_cd 216 40 = some (.ifCond .ge 8, 3) := cg216_37.2.2.1
theorem c216_43 : mc_cd 216 43 = some (.iload_n 3, 1) := cg216_37.2.2.2.1
theorem c216_44 : mc_cd 216 44 = some (.ineg, 1) := cg216_37.2.2.2.2.1
theorem c216_45 : mc_cd 216 45 = some (.goto 4, 3) := cg216_37.2.2.2.2.2.1
theorem c216_48 : mc_cd 216 48 = some (.iload_n 3, 1) := cg216_37.2.2.2.2.2.2.1
theorem c216_49 : mc_cd 216 49 = some (.isub, 1) := cg216_37.2.2.2.2.2.2.2
theorem cg216_50 : mc_cd 216 50 = some (.istore 4, 2) ∧ mc_cd 216 52 = some (.iload 4, 2) ∧ mc_cd 216 54 = some (.iconst 1, 1) ∧ mc_cd 216 55 = some (.if_icmp .ge 7, 3) ∧ mc_cd 216 58 = some (.iconst 1, 1) ∧ mc_cd 216 59 = some (.goto 5, 3) ∧ mc_cd 216 62 = some (.iload 4, 2) ∧ mc_cd 216 64 = some (.ireturn, 1) := by decide +kernel
theorem c216_50 : mc_cd 216 50 = some (.istore 4, 2) := cg216_50.1
theorem c216_52 : mc_cd 216 52 = some (.iload 4, 2) := cg216_50.2.1
theorem c216_54 : mc_cd 216 54 = some (.iconst 1, 1) := cg216_50.2.2.1
theorem c216_55 : mc_cd 216 55 = some (.if_icmp .ge 7, 3) := cg216_50.2.2.2.1
theorem c216_58 : mc_cd 216 58 = some (.iconst 1, 1) := cg216_50.2.2.2.2.1
theorem c216_59 : mc_cd 216 59 = some (.goto 5, 3) := cg216_50.2.2.2.2.2.1
theorem c216_62 : mc_cd 216 62 = some (.iload 4, 2) := cg216_50.2.2.2.2.2.2.1
theorem c216_64 : mc_cd 216 64 = some (.ireturn, 1) := cg216_50.2.2.2.2.2.2.2
abbrev q_216 (r0 : Nat) (a1 : Int) (a2 : Int) (pp : Nat) (T : wq_T) (H : wq_H) : Option Value → wq_T → wq_H → Prop := fun r T' H' => T = T' ∧ H = H' ∧ ∃ z : Int, some (vI z) = r ∧ (1 ≤ z ∧ z ≤ 10)
set_option maxHeartbeats 4000000 in
theorem s_216 {kt : Nat → Option mc_E} {T : wq_T} {H : wq_H} {r0 : Nat} {a1 : Int} {a2 : Int} {pp : Nat} (hW : WT T H) (g0 : T.2.2.2 r0 = some 42) (i1 : 0 ≤ a1 ∧ a1 ≤ 5) (i2 : 0 ≤ a2 ∧ a2 ≤ 39) (qpp : H r0 3 = (pp : Int)) (gpp : T.2.2.2 pp = some 54) : wpc kt 1 216 [.ref r0, vI a1, vI a2] T H (q_216 r0 a1 a2 pp T H) := by
  refine wp_enter e216 (Nat.le_of_ble_eq_true rfl) rfl ?_
  show wp _ _ 216 0 [(0, .ref r0), (1, vI a1), (2, vI a2)] [] _ H _
  refine wp_of e216 c216_0 (rw_aload_n (pc' := 1) (v := .ref r0) rfl rfl rfl ?_)
  refine wp_of e216 c216_1 (xg_K (pc' := 4) lf_9_337 hW g0 sh_42 (by decide) (by decide) rfl qpp rfl ?_)
  refine wp_of e216 c216_4 (xg_R (pc' := 7) lf_9_259 hW gpp sh_54 (by decide) (by decide) ty_54_14 rfl rfl (fun r129209 q129210 g129211 => ?_))
  refine wp_of e216 c216_7 (rw_iload_n (pc' := 8) (z := a1) rfl rfl ?_)
  refine wp_of e216 c216_8 (xa_I (so := 0) (pc' := 9) hW g129211 sh_60 (by decide) (ty_60 _) (by omega) (by omega) rfl (fun b129212 b129213 => ?_))
  refine wp_of e216 c216_9 (rw_iconst (pc' := 10) rfl ?_)
  refine wp_of e216 c216_10 (rw_icmp_ne (p1 := 15) (p2 := 13) (by decide) rfl ⟨by omega, by omega⟩ ⟨by omega, by omega⟩ (fun c129214 => ?_) (fun c129214 => ?_))
  · refine wp_of e216 c216_15 (rw_aload_n (pc' := 16) (v := .ref r0) rfl rfl rfl ?_)
    refine wp_of e216 c216_16 (xg_R (pc' := 19) lf_9_24 hW g0 sh_42 (by decide) (by decide) ty_42_22 rfl rfl (fun r129215 q129216 g129217 => ?_))
    refine wp_of e216 c216_19 (rw_bipush (pc' := 21) (z := 40) rfl (by decide) ?_)
    refine wp_of e216 c216_21 (rw_iload_n (pc' := 22) (z := a1) rfl rfl ?_)
    refine wp_of e216 c216_22 (rw_imul (pc' := 23) rfl ?_)
    refine wp_of e216 c216_23 (rw_iload_n (pc' := 24) (z := a2) rfl rfl ?_)
    refine wp_of e216 c216_24 (rw_iadd (pc' := 25) rfl ?_)
    refine wp_of e216 c216_25 (xa_I (so := 0) (pc' := 26) hW g129217 sh_46 (by decide) (ty_46 _) (by omega) (by omega) rfl (fun b129218 b129219 => ?_))
    refine wp_of e216 c216_26 (rw_aload_n (pc' := 27) (v := .ref r0) rfl rfl rfl ?_)
    refine wp_of e216 c216_27 (xg_K (pc' := 30) lf_9_337 hW g0 sh_42 (by decide) (by decide) rfl qpp rfl ?_)
    refine wp_of e216 c216_30 (xg_K (pc' := 33) lf_9_259 hW gpp sh_54 (by decide) (by decide) rfl q129210 rfl ?_)
    refine wp_of e216 c216_33 (rw_iload_n (pc' := 34) (z := a1) rfl rfl ?_)
    refine wp_of e216 c216_34 (xa_I (so := 0) (pc' := 35) hW g129211 sh_60 (by decide) (ty_60 _) (by omega) (by omega) rfl (fun b129220 b129221 => ?_))
    refine wp_of e216 c216_35 (rw_isub (pc' := 36) rfl ?_)
    refine wp_of e216 c216_36 (rw_istore_n (pc' := 37) (z := (H r129215 (((40 * a1) + a2).toNat)) - (H r129209 (a1.toNat))) (L' := [(3, vI ((H r129215 (((40 * a1) + a2).toNat)) - (H r129209 (a1.toNat)))), (0, .ref r0), (1, vI a1), (2, vI a2)]) rfl rfl rfl ?_)
    refine wp_of e216 c216_37 (rw_bipush (pc' := 39) (z := 10) rfl (by decide) ?_)
    refine wp_of e216 c216_39 (rw_iload_n (pc' := 40) (z := (H r129215 (((40 * a1) + a2).toNat)) - (H r129209 (a1.toNat))) rfl rfl ?_)
    refine wp_of e216 c216_40 (rw_if_ge (p1 := 48) (p2 := 43) (by decide) rfl ⟨by omega, by omega⟩ (fun c129222 => ?_) (fun c129222 => ?_))
    · refine wp_of e216 c216_48 (rw_iload_n (pc' := 49) (z := (H r129215 (((40 * a1) + a2).toNat)) - (H r129209 (a1.toNat))) rfl rfl ?_)
      refine wp_of e216 c216_49 (rw_isub (pc' := 50) rfl ?_)
      refine wp_of e216 c216_50 (rw_istore (pc' := 52) (z := 10 - ((H r129215 (((40 * a1) + a2).toNat)) - (H r129209 (a1.toNat)))) (L' := [(4, vI (10 - ((H r129215 (((40 * a1) + a2).toNat)) - (H r129209 (a1.toNat))))), (3, vI ((H r129215 (((40 * a1) + a2).toNat)) - (H r129209 (a1.toNat)))), (0, .ref r0), (1, vI a1), (2, vI a2)]) rfl rfl rfl ?_)
      refine wp_of e216 c216_52 (rw_iload (pc' := 54) (z := 10 - ((H r129215 (((40 * a1) + a2).toNat)) - (H r129209 (a1.toNat)))) rfl rfl ?_)
      refine wp_of e216 c216_54 (rw_iconst (pc' := 55) rfl ?_)
      refine wp_of e216 c216_55 (rw_icmp_ge (p1 := 62) (p2 := 58) (by decide) rfl ⟨by omega, by omega⟩ ⟨by omega, by omega⟩ (fun c129223 => ?_) (fun c129223 => ?_))
      · refine wp_of e216 c216_62 (rw_iload (pc' := 64) (z := 10 - ((H r129215 (((40 * a1) + a2).toNat)) - (H r129209 (a1.toNat)))) rfl rfl ?_)
        exact wp_ireturn e216 c216_64 rfl ⟨rfl, rfl, 10 - ((H r129215 (((40 * a1) + a2).toNat)) - (H r129209 (a1.toNat))), rfl, ⟨by omega, by omega⟩⟩
      · refine wp_of e216 c216_58 (rw_iconst (pc' := 59) rfl ?_)
        refine wp_of e216 c216_59 (rw_goto (p1 := 64) (by decide) ?_)
        exact wp_ireturn e216 c216_64 rfl ⟨rfl, rfl, 1, rfl, ⟨by omega, by omega⟩⟩
    · refine wp_of e216 c216_43 (rw_iload_n (pc' := 44) (z := (H r129215 (((40 * a1) + a2).toNat)) - (H r129209 (a1.toNat))) rfl rfl ?_)
      refine wp_of e216 c216_44 (rw_ineg (pc' := 45) rfl ?_)
      refine wp_of e216 c216_45 (rw_goto (p1 := 49) (by decide) ?_)
      refine wp_of e216 c216_49 (rw_isub (pc' := 50) rfl ?_)
      refine wp_of e216 c216_50 (rw_istore (pc' := 52) (z := 10 - (-((H r129215 (((40 * a1) + a2).toNat)) - (H r129209 (a1.toNat))))) (L' := [(4, vI (10 - (-((H r129215 (((40 * a1) + a2).toNat)) - (H r129209 (a1.toNat)))))), (3, vI ((H r129215 (((40 * a1) + a2).toNat)) - (H r129209 (a1.toNat)))), (0, .ref r0), (1, vI a1), (2, vI a2)]) rfl rfl rfl ?_)
      refine wp_of e216 c216_52 (rw_iload (pc' := 54) (z := 10 - (-((H r129215 (((40 * a1) + a2).toNat)) - (H r129209 (a1.toNat))))) rfl rfl ?_)
      refine wp_of e216 c216_54 (rw_iconst (pc' := 55) rfl ?_)
      refine wp_of e216 c216_55 (rw_icmp_ge (p1 := 62) (p2 := 58) (by decide) rfl ⟨by omega, by omega⟩ ⟨by omega, by omega⟩ (fun c129224 => ?_) (fun c129224 => ?_))
      · refine wp_of e216 c216_62 (rw_iload (pc' := 64) (z := 10 - (-((H r129215 (((40 * a1) + a2).toNat)) - (H r129209 (a1.toNat))))) rfl rfl ?_)
        exact wp_ireturn e216 c216_64 rfl ⟨rfl, rfl, 10 - (-((H r129215 (((40 * a1) + a2).toNat)) - (H r129209 (a1.toNat)))), rfl, ⟨by omega, by omega⟩⟩
      · refine wp_of e216 c216_58 (rw_iconst (pc' := 59) rfl ?_)
        refine wp_of e216 c216_59 (rw_goto (p1 := 64) (by decide) ?_)
        exact wp_ireturn e216 c216_64 rfl ⟨rfl, rfl, 1, rfl, ⟨by omega, by omega⟩⟩
  · refine wp_of e216 c216_13 (rw_iconst (pc' := 14) rfl ?_)
    exact wp_ireturn e216 c216_14 rfl ⟨rfl, rfl, 1, rfl, ⟨by omega, by omega⟩⟩
/-! StrikeAwakeModel.span(III)I -/
theorem e214 : wq_en 214 = some (9, 4, false, some FieldType.int) := rfl
theorem cg214_0 : mc_cd 214 0 = some (.aload_n 0, 1) ∧ mc_cd 214 1 = some (.iconst 0, 1) ∧ mc_cd 214 2 = some (.putfield 48, 3) ∧ mc_cd 214 5 = some (.aload_n 0, 1) ∧ mc_cd 214 6 = some (.iload_n 1, 1) ∧ mc_cd 214 7 = some (.iload_n 2, 1) ∧ mc_cd 214 8 = some (.invokevirtual 367, 3) ∧ mc_cd 214 11 = some (.ifCond .eq 12, 3) := by decide +kernel
theorem c214_0 : mc_cd 214 0 = some (.aload_n 0, 1) := cg214_0.1
theorem c214_1 : mc_cd 214 1 = some (.iconst 0, 1) := cg214_0.2.1
theorem c214_2 : mc_cd 214 2 = some (.putfield 48, 3) := cg214_0.2.2.1
theorem c214_5 : mc_cd 214 5 = some (.aload_n 0, 1) := cg214_0.2.2.2.1
theorem c214_6 : mc_cd 214 6 = some (.iload_n 1, 1) := cg214_0.2.2.2.2.1
theorem c214_7 : mc_cd 214 7 = some (.iload_n 2, 1) := cg214_0.2.2.2.2.2.1
theorem c214_8 : mc_cd 214 8 = some (.invokevirtual 367, 3) := cg214_0.2.2.2.2.2.2.1
theorem c214_11 : mc_cd 214 11 = some (.ifCond .eq 12, 3) := cg214_0.2.2.2.2.2.2.2
theorem cg214_14 : mc_cd 214 14 = some (.iload_n 3, 1) ∧ mc_cd 214 15 = some (.iconst 0, 1) ∧ mc_cd 214 16 = some (.iconst 2, 1) ∧ mc_cd 214 17 = some (.invokestatic 125, 3) ∧ mc_cd 214 20 = some (.ifCond .ne 9, 3) ∧ mc_cd 214 23 = some (.aload_n 0, 1) ∧ mc_cd 214 24 = some (.iconst 1, 1) ∧ mc_cd 214 25 = some (.invokevirtual 54, 3) := by decide +kernel
theorem c214_14 : mc_cd 214 14 = some (.iload_n 3, 1) := cg214_14.1
theorem c214_15 : mc_cd 214 15 = some (.iconst 0, 1) := cg214_14.2.1
theorem c214_16 : mc_cd 214 16 = some (.iconst 2, 1) := cg214_14.2.2.1
theorem c214_17 : mc_cd 214 17 = some (.invokestatic 125, 3) := cg214_14.2.2.2.1
theorem c214_20 : mc_cd 214 20 = some (.ifCond .ne 9, 3) := cg214_14.2.2.2.2.1
theorem c214_23 : mc_cd 214 23 = some (.aload_n 0, 1) := cg214_14.2.2.2.2.2.1
theorem c214_24 : mc_cd 214 24 = some (.iconst 1, 1) := cg214_14.2.2.2.2.2.2.1
theorem c214_25 : mc_cd 214 25 = some (.invokevirtual 54, 3) := cg214_14.2.2.2.2.2.2.2
theorem cg214_28 : mc_cd 214 28 = some (.ireturn, 1) ∧ mc_cd 214 29 = some (.aload_n 0, 1) ∧ mc_cd 214 30 = some (.iload_n 3, 1) ∧ mc_cd 214 31 = some (.ifCond .ne 17, 3) ∧ mc_cd 214 34 = some (.aload_n 0, 1) ∧ mc_cd 214 35 = some (.getfield 24, 3) ∧ mc_cd 214 38 = some (.bipush 40, 2) ∧ mc_cd 214 40 = some (.iload_n 1, 1) := by decide +kernel
theorem c214_28 : mc_cd 214 28 = some (.ireturn, 1) := cg214_28.1
theorem c214_29 : mc_cd 214 29 = some (.aload_n 0, 1) := cg214_28.2.1
theorem c214_30 : mc_cd 214 30 = some (.iload_n 3, 1) := cg214_28.2.2.1
theorem c214_31 : mc_cd 214 31 = some (.ifCond .ne 17, 3) := cg214_28.2.2.2.1
theorem c214_34 : mc_cd 214 34 = some (.aload_n 0, 1) := cg214_28.2.2.2.2.1
theorem c214_35 : mc_cd 214 35 = some (.getfield 24, 3) := cg214_28.2.2.2.2.2.1
theorem c214_38 : mc_cd 214 38 = some (.bipush 40, 2) := cg214_28.2.2.2.2.2.2.1
theorem c214_40 : mc_cd 214 40 = some (.iload_n 1, 1) := cg214_28.2.2.2.2.2.2.2
theorem cg214_41 : mc_cd 214 41 = some (.imul, 1) ∧ mc_cd 214 42 = some (.iload_n 2, 1) ∧ mc_cd 214 43 = some (.iadd, 1) ∧ mc_cd 214 44 = some (.iaload, 1) ∧ mc_cd 214 45 = some (.goto 28, 3) ∧ mc_cd 214 48 = some (.iload_n 3, 1) ∧ mc_cd 214 49 = some (.iconst 1, 1) ∧ mc_cd 214 50 = some (.if_icmp .ne 17, 3) := by decide +kernel
theorem c214_41 : mc_cd 214 41 = some (.imul, 1) := cg214_41.1
theorem c214_42 : mc_cd 214 42 = some (.iload_n 2, 1) := cg214_41.2.1
theorem c214_43 : mc_cd 214 43 = some (.iadd, 1) := cg214_41.2.2.1
theorem c214_44 : mc_cd 214 44 = some (.iaload, 1) := cg214_41.2.2.2.1
theorem c214_45 : mc_cd 214 45 = some (.goto 28, 3) := cg214_41.2.2.2.2.1
theorem c214_48 : mc_cd 214 48 = some (.iload_n 3, 1) := cg214_41.2.2.2.2.2.1
theorem c214_49 : mc_cd 214 49 = some (.iconst 1, 1) := cg214_41.2.2.2.2.2.2.1
theorem c214_50 : mc_cd 214 50 = some (.if_icmp .ne 17, 3) := cg214_41.2.2.2.2.2.2.2
theorem cg214_53 : mc_cd 214 53 = some (.aload_n 0, 1) ∧ mc_cd 214 54 = some (.getfield 27, 3) ∧ mc_cd 214 57 = some (.bipush 40, 2) ∧ mc_cd 214 59 = some (.iload_n 1, 1) ∧ mc_cd 214 60 = some (.imul, 1) ∧ mc_cd 214 61 = some (.iload_n 2, 1) ∧ mc_cd 214 62 = some (.iadd, 1) ∧ mc_cd 214 63 = some (.iaload, 1) := by decide +kernel
theorem c214_53 : mc_cd 214 53 = some (.aload_n 0, 1) := cg214_53.1
theorem c214_54 : mc_cd 214 54 = some (.getfield 27, 3) := cg214_53.2.1
theorem c214_57 : mc_cd 214 57 = some (.bipush 40, 2) := cg214_53.2.2.1
theorem c214_59 : mc_cd 214 59 = some (.iload_n 1, 1) := cg214_53.2.2.2.1
theorem c214_60 : mc_cd 214 60 = some (.imul, 1) := cg214_53.2.2.2.2.1
theorem c214_61 : mc_cd 214 61 = some (.iload_n 2, 1) := cg214_53.2.2.2.2.2.1
theorem c214_62 : mc_cd 214 62 = some (.iadd, 1) := cg214_53.2.2.2.2.2.2.1
theorem c214_63 : mc_cd 214 63 = some (.iaload, 1) := cg214_53.2.2.2.2.2.2.2
theorem cg214_64 : mc_cd 214 64 = some (.goto 9, 3) ∧ mc_cd 214 67 = some (.aload_n 0, 1) ∧ mc_cd 214 68 = some (.iload_n 1, 1) ∧ mc_cd 214 69 = some (.iload_n 2, 1) ∧ mc_cd 214 70 = some (.invokevirtual 370, 3) ∧ mc_cd 214 73 = some (.invokevirtual 58, 3) ∧ mc_cd 214 76 = some (.ireturn, 1) := by decide +kernel
theorem c214_64 : mc_cd 214 64 = some (.goto 9, 3) := cg214_64.1
theorem c214_67 : mc_cd 214 67 = some (.aload_n 0, 1) := cg214_64.2.1
theorem c214_68 : mc_cd 214 68 = some (.iload_n 1, 1) := cg214_64.2.2.1
theorem c214_69 : mc_cd 214 69 = some (.iload_n 2, 1) := cg214_64.2.2.2.1
theorem c214_70 : mc_cd 214 70 = some (.invokevirtual 370, 3) := cg214_64.2.2.2.2.1
theorem c214_73 : mc_cd 214 73 = some (.invokevirtual 58, 3) := cg214_64.2.2.2.2.2.1
theorem c214_76 : mc_cd 214 76 = some (.ireturn, 1) := cg214_64.2.2.2.2.2.2
abbrev q_214 (r0 : Nat) (a1 : Int) (a2 : Int) (a3 : Int) (T : wq_T) (H : wq_H) : Option Value → wq_T → wq_H → Prop := fun r T' H' => T = T' ∧ WT T H' ∧ wfr [(42, 0), (42, 1), (42, 2)] T H H' ∧ ∃ z : Int, some (vI z) = r ∧ ((-2147483648) ≤ z ∧ z ≤ 2147483647) ∧ (wKI H' r0 = 1)
set_option maxHeartbeats 4000000 in
theorem s_214 {kt : Nat → Option mc_E} {T : wq_T} {H : wq_H} {r0 : Nat} {a1 : Int} {a2 : Int} {a3 : Int} (hW : WT T H) (g0 : T.2.2.2 r0 = some 42) (i1 : (-2147483648) ≤ a1 ∧ a1 ≤ 2147483647) (i2 : (-2147483648) ≤ a2 ∧ a2 ≤ 2147483647) (i3 : (-2147483648) ≤ a3 ∧ a3 ≤ 2147483647) (p0 : wKI H r0 = 1) : wpc kt 3 214 [.ref r0, vI a1, vI a2, vI a3] T H (q_214 r0 a1 a2 a3 T H) := by
  refine wp_enter e214 (Nat.le_of_ble_eq_true rfl) rfl ?_
  have f0 : wfr [(42, 0), (42, 1), (42, 2)] T H H := wfr.rf
  show wp _ _ 214 0 [(0, .ref r0), (1, vI a1), (2, vI a2), (3, vI a3)] [] _ H _
  refine wp_of e214 c214_0 (rw_aload_n (pc' := 1) (v := .ref r0) rfl rfl rfl ?_)
  refine wp_of e214 c214_1 (rw_iconst (pc' := 2) rfl ?_)
  refine wp_of e214 c214_2 (xp_I (pc' := 5) lf_9_48 hW g0 sh_42 (by decide) (by decide) ty_42_0 rfl rfl (by omega) (by omega) ⟨by omega, by omega⟩ rfl (fun H129336 e129337 w129338 => ?_))
  have f129339 := f0.put' e129337 g0 rfl
  have k129340 : H129336 r0 0 = 0 := wq_u_s e129337
  refine wp_of e214 c214_5 (rw_aload_n (pc' := 6) (v := .ref r0) rfl rfl rfl ?_)
  refine wp_of e214 c214_6 (rw_iload_n (pc' := 7) (z := a1) rfl rfl ?_)
  refine wp_of e214 c214_7 (rw_iload_n (pc' := 8) (z := a2) rfl rfl ?_)
  refine wp_of e214 c214_8 (xc_V (pc' := 11) (r := r0) (as := [vI a1, vI a2]) (st := []) (lm_9_367) rfl rfl (Nat.le_of_ble_eq_true rfl) w129338 g0 sh_42 (by decide) rfl (by decide) (s_215 w129338 g0 ⟨by omega, by omega⟩ ⟨by omega, by omega⟩) (fun R129341 T129342 H129343 p129344 => ?_))
  obtain ⟨e129345, e129347, z129349, e129346, b129350, p129348⟩ := p129344
  subst e129345
  subst e129346
  subst e129347
  show wp _ _ 214 11 [(0, .ref r0), (1, vI a1), (2, vI a2), (3, vI a3)] [vI z129349] _ H129336 _
  refine wp_of e214 c214_11 (rw_if_eq (p1 := 23) (p2 := 14) (by decide) rfl ⟨by omega, by omega⟩ (fun c129351 => ?_) (fun c129351 => ?_))
  · refine wp_of e214 c214_23 (rw_aload_n (pc' := 24) (v := .ref r0) rfl rfl rfl ?_)
    refine wp_of e214 c214_24 (rw_iconst (pc' := 25) rfl ?_)
    refine wp_of e214 c214_25 (xc_V (pc' := 28) (r := r0) (as := [vI 1]) (st := []) (lm_9_54) rfl rfl (Nat.le_of_ble_eq_true rfl) w129338 g0 sh_42 (by decide) rfl (by decide) (s_170 w129338 g0 ⟨by omega, by omega⟩) (fun R129352 T129353 H129354 p129355 => ?_))
    obtain ⟨e129356, w129358, f129359, z129360, e129357, b129361⟩ := p129355
    subst e129356
    subst e129357
    have f129362 := f129339.tr f129359 rfl
    show wp _ _ 214 28 [(0, .ref r0), (1, vI a1), (2, vI a2), (3, vI a3)] [vI z129360] _ H129354 _
    have k129363 : wKI H129354 r0 = wKI H r0 := ((wKI_fr w129338 g0 f129359 rfl).trans (wKI_fr hW g0 ((wfr.rf (l := [(42, 0)])).put' e129337 g0 rfl) rfl))
    exact wp_ireturn e214 c214_28 rfl ⟨rfl, w129358, f129362, z129360, rfl, ⟨by omega, by omega⟩, by omega⟩
  · refine wp_of e214 c214_14 (rw_iload_n (pc' := 15) (z := a3) rfl rfl ?_)
    refine wp_of e214 c214_15 (rw_iconst (pc' := 16) rfl ?_)
    refine wp_of e214 c214_16 (rw_iconst (pc' := 17) rfl ?_)
    refine wp_of e214 c214_17 (xc_S (pc' := 20) (as := [vI a3, vI 0, vI 2]) (st := []) (lm_9_125) rfl rfl (Nat.le_of_ble_eq_true rfl) rfl (by decide) (s_186 w129338 ⟨by omega, by omega⟩ ⟨by omega, by omega⟩ ⟨by omega, by omega⟩) (fun R129364 T129365 H129366 p129367 => ?_))
    obtain ⟨e129368, e129370, z129372, e129369, b129373, p129371⟩ := p129367
    subst e129368
    subst e129369
    subst e129370
    show wp _ _ 214 20 [(0, .ref r0), (1, vI a1), (2, vI a2), (3, vI a3)] [vI z129372] _ H129336 _
    refine wp_of e214 c214_20 (rw_if_ne (p1 := 29) (p2 := 23) (by decide) rfl ⟨by omega, by omega⟩ (fun c129374 => ?_) (fun c129374 => ?_))
    · refine wp_of e214 c214_29 (rw_aload_n (pc' := 30) (v := .ref r0) rfl rfl rfl ?_)
      refine wp_of e214 c214_30 (rw_iload_n (pc' := 31) (z := a3) rfl rfl ?_)
      refine wp_of e214 c214_31 (rw_if_ne (p1 := 48) (p2 := 34) (by decide) rfl ⟨by omega, by omega⟩ (fun c129375 => ?_) (fun c129375 => ?_))
      · refine wp_of e214 c214_48 (rw_iload_n (pc' := 49) (z := a3) rfl rfl ?_)
        refine wp_of e214 c214_49 (rw_iconst (pc' := 50) rfl ?_)
        refine wp_of e214 c214_50 (rw_icmp_ne (p1 := 67) (p2 := 53) (by decide) rfl ⟨by omega, by omega⟩ ⟨by omega, by omega⟩ (fun c129376 => ?_) (fun c129376 => ?_))
        · refine wp_of e214 c214_67 (rw_aload_n (pc' := 68) (v := .ref r0) rfl rfl rfl ?_)
          refine wp_of e214 c214_68 (rw_iload_n (pc' := 69) (z := a1) rfl rfl ?_)
          refine wp_of e214 c214_69 (rw_iload_n (pc' := 70) (z := a2) rfl rfl ?_)
          obtain ⟨r129377, q129378, g129379⟩ := (w129338.opt g0 (t' := 54) (n := 33) (j := 3) (p := 0) (q := 0) rfl (by decide) rfl).resolve_left (by omega)
          refine wp_of e214 c214_70 (xc_V (pc' := 73) (r := r0) (as := [vI a1, vI a2]) (st := [.ref r0]) (lm_9_370) rfl rfl (Nat.le_of_ble_eq_true rfl) w129338 g0 sh_42 (by decide) rfl (by decide) (s_216 w129338 g0 ⟨by omega, by omega⟩ ⟨by omega, by omega⟩ q129378 g129379) (fun R129380 T129381 H129382 p129383 => ?_))
          obtain ⟨e129384, e129386, z129387, e129385, b129388⟩ := p129383
          subst e129384
          subst e129385
          subst e129386
          show wp _ _ 214 73 [(0, .ref r0), (1, vI a1), (2, vI a2), (3, vI a3)] [vI z129387, .ref r0] _ H129336 _
          refine wp_of e214 c214_73 (xc_V (pc' := 76) (r := r0) (as := [vI z129387]) (st := []) (lm_9_58) rfl rfl (Nat.le_of_ble_eq_true rfl) w129338 g0 sh_42 (by decide) rfl (by decide) (s_209 w129338 g0 ⟨by omega, by omega⟩) (fun R129389 T129390 H129391 p129392 => ?_))
          obtain ⟨e129393, w129395, f129396, z129397, e129394, b129398⟩ := p129392
          subst e129393
          subst e129394
          have f129399 := f129339.tr f129396 rfl
          show wp _ _ 214 76 [(0, .ref r0), (1, vI a1), (2, vI a2), (3, vI a3)] [vI z129397] _ H129391 _
          have k129400 : wKI H129391 r0 = wKI H r0 := ((wKI_fr w129338 g0 f129396 rfl).trans (wKI_fr hW g0 ((wfr.rf (l := [(42, 0)])).put' e129337 g0 rfl) rfl))
          exact wp_ireturn e214 c214_76 rfl ⟨rfl, w129395, f129399, z129397, rfl, ⟨by omega, by omega⟩, by omega⟩
        · refine wp_of e214 c214_53 (rw_aload_n (pc' := 54) (v := .ref r0) rfl rfl rfl ?_)
          refine wp_of e214 c214_54 (xg_R (pc' := 57) lf_9_27 w129338 g0 sh_42 (by decide) (by decide) ty_42_23 rfl rfl (fun r129401 q129402 g129403 => ?_))
          refine wp_of e214 c214_57 (rw_bipush (pc' := 59) (z := 40) rfl (by decide) ?_)
          refine wp_of e214 c214_59 (rw_iload_n (pc' := 60) (z := a1) rfl rfl ?_)
          refine wp_of e214 c214_60 (rw_imul (pc' := 61) rfl ?_)
          refine wp_of e214 c214_61 (rw_iload_n (pc' := 62) (z := a2) rfl rfl ?_)
          refine wp_of e214 c214_62 (rw_iadd (pc' := 63) rfl ?_)
          refine wp_of e214 c214_63 (xa_I (so := 0) (pc' := 64) w129338 g129403 sh_47 (by decide) (ty_47 _) (by omega) (by omega) rfl (fun b129404 b129405 => ?_))
          refine wp_of e214 c214_64 (rw_goto (p1 := 73) (by decide) ?_)
          refine wp_of e214 c214_73 (xc_V (pc' := 76) (r := r0) (as := [vI (H129336 r129401 (((40 * a1) + a2).toNat))]) (st := []) (lm_9_58) rfl rfl (Nat.le_of_ble_eq_true rfl) w129338 g0 sh_42 (by decide) rfl (by decide) (s_209 w129338 g0 ⟨by omega, by omega⟩) (fun R129406 T129407 H129408 p129409 => ?_))
          obtain ⟨e129410, w129412, f129413, z129414, e129411, b129415⟩ := p129409
          subst e129410
          subst e129411
          have f129416 := f129339.tr f129413 rfl
          show wp _ _ 214 76 [(0, .ref r0), (1, vI a1), (2, vI a2), (3, vI a3)] [vI z129414] _ H129408 _
          have k129417 : wKI H129408 r0 = wKI H r0 := ((wKI_fr w129338 g0 f129413 rfl).trans (wKI_fr hW g0 ((wfr.rf (l := [(42, 0)])).put' e129337 g0 rfl) rfl))
          exact wp_ireturn e214 c214_76 rfl ⟨rfl, w129412, f129416, z129414, rfl, ⟨by omega, by omega⟩, by omega⟩
      · refine wp_of e214 c214_34 (rw_aload_n (pc' := 35) (v := .ref r0) rfl rfl rfl ?_)
        refine wp_of e214 c214_35 (xg_R (pc' := 38) lf_9_24 w129338 g0 sh_42 (by decide) (by decide) ty_42_22 rfl rfl (fun r129418 q129419 g129420 => ?_))
        refine wp_of e214 c214_38 (rw_bipush (pc' := 40) (z := 40) rfl (by decide) ?_)
        refine wp_of e214 c214_40 (rw_iload_n (pc' := 41) (z := a1) rfl rfl ?_)
        refine wp_of e214 c214_41 (rw_imul (pc' := 42) rfl ?_)
        refine wp_of e214 c214_42 (rw_iload_n (pc' := 43) (z := a2) rfl rfl ?_)
        refine wp_of e214 c214_43 (rw_iadd (pc' := 44) rfl ?_)
        refine wp_of e214 c214_44 (xa_I (so := 0) (pc' := 45) w129338 g129420 sh_46 (by decide) (ty_46 _) (by omega) (by omega) rfl (fun b129421 b129422 => ?_))
        refine wp_of e214 c214_45 (rw_goto (p1 := 73) (by decide) ?_)
        refine wp_of e214 c214_73 (xc_V (pc' := 76) (r := r0) (as := [vI (H129336 r129418 (((40 * a1) + a2).toNat))]) (st := []) (lm_9_58) rfl rfl (Nat.le_of_ble_eq_true rfl) w129338 g0 sh_42 (by decide) rfl (by decide) (s_209 w129338 g0 ⟨by omega, by omega⟩) (fun R129423 T129424 H129425 p129426 => ?_))
        obtain ⟨e129427, w129429, f129430, z129431, e129428, b129432⟩ := p129426
        subst e129427
        subst e129428
        have f129433 := f129339.tr f129430 rfl
        show wp _ _ 214 76 [(0, .ref r0), (1, vI a1), (2, vI a2), (3, vI a3)] [vI z129431] _ H129425 _
        have k129434 : wKI H129425 r0 = wKI H r0 := ((wKI_fr w129338 g0 f129430 rfl).trans (wKI_fr hW g0 ((wfr.rf (l := [(42, 0)])).put' e129337 g0 rfl) rfl))
        exact wp_ireturn e214 c214_76 rfl ⟨rfl, w129429, f129433, z129431, rfl, ⟨by omega, by omega⟩, by omega⟩
    · refine wp_of e214 c214_23 (rw_aload_n (pc' := 24) (v := .ref r0) rfl rfl rfl ?_)
      refine wp_of e214 c214_24 (rw_iconst (pc' := 25) rfl ?_)
      refine wp_of e214 c214_25 (xc_V (pc' := 28) (r := r0) (as := [vI 1]) (st := []) (lm_9_54) rfl rfl (Nat.le_of_ble_eq_true rfl) w129338 g0 sh_42 (by decide) rfl (by decide) (s_170 w129338 g0 ⟨by omega, by omega⟩) (fun R129435 T129436 H129437 p129438 => ?_))
      obtain ⟨e129439, w129441, f129442, z129443, e129440, b129444⟩ := p129438
      subst e129439
      subst e129440
      have f129445 := f129339.tr f129442 rfl
      show wp _ _ 214 28 [(0, .ref r0), (1, vI a1), (2, vI a2), (3, vI a3)] [vI z129443] _ H129437 _
      have k129446 : wKI H129437 r0 = wKI H r0 := ((wKI_fr w129338 g0 f129442 rfl).trans (wKI_fr hW g0 ((wfr.rf (l := [(42, 0)])).put' e129337 g0 rfl) rfl))
      exact wp_ireturn e214 c214_28 rfl ⟨rfl, w129441, f129445, z129443, rfl, ⟨by omega, by omega⟩, by omega⟩
/-! StrikeAwakeModel.isHour(I)Z -/
theorem e218 : wq_en 218 = some (9, 2, false, some FieldType.boolean) := rfl
theorem cg218_0 : mc_cd 218 0 = some (.aload_n 0, 1) ∧ mc_cd 218 1 = some (.getfield 337, 3) ∧ mc_cd 218 4 = some (.ifnull 22, 3) ∧ mc_cd 218 7 = some (.iload_n 1, 1) ∧ mc_cd 218 8 = some (.ifCond .lt 18, 3) ∧ mc_cd 218 11 = some (.iload_n 1, 1) ∧ mc_cd 218 12 = some (.aload_n 0, 1) ∧ mc_cd 218 13 = some (.getfield 337, 3) := by decide +kernel
theorem c218_0 : mc_cd 218 0 = some (.aload_n 0, 1) := cg218_0.1
theorem c218_1 : mc_cd 218 1 = some (.getfield 337, 3) := cg218_0.2.1
theorem c218_4 : mc_cd 218 4 = some (.ifnull 22, 3) := cg218_0.2.2.1
theorem c218_7 : mc_cd 218 7 = some (.iload_n 1, 1) := cg218_0.2.2.2.1
theorem c218_8 : mc_cd 218 8 = some (.ifCond .lt 18, 3) := cg218_0.2.2.2.2.1
theorem c218_11 : mc_cd 218 11 = some (.iload_n 1, 1) := cg218_0.2.2.2.2.2.1
theorem c218_12 : mc_cd 218 12 = some (.aload_n 0, 1) := cg218_0.2.2.2.2.2.2.1
theorem c218_13 : mc_cd 218 13 = some (.getfield 337, 3) := cg218_0.2.2.2.2.2.2.2
theorem cg218_16 : mc_cd 218 16 = some (.getfield 185, 3) ∧ mc_cd 218 19 = some (.if_icmp .ge 7, 3) ∧ mc_cd 218 22 = some (.iconst 1, 1) ∧ mc_cd 218 23 = some (.goto 4, 3) ∧ mc_cd 218 26 = some (.iconst 0, 1) ∧ mc_cd 218 27 = some (.ireturn, 1) := by decide +kernel
theorem c218_16 : mc_cd 218 16 = some (.getfield 185, 3) := cg218_16.1
theorem c218_19 : mc_cd 218 19 = some (.if_icmp .ge 7, 3) := cg218_16.2.1
theorem c218_22 : mc_cd 218 22 = some (.iconst 1, 1) := cg218_16.2.2.1
theorem c218_23 : mc_cd 218 23 = some (.goto 4, 3) := cg218_16.2.2.2.1
theorem c218_26 : mc_cd 218 26 = some (.iconst 0, 1) := cg218_16.2.2.2.2.1
theorem c218_27 : mc_cd 218 27 = some (.ireturn, 1) := cg218_16.2.2.2.2.2
abbrev q_218 (r0 : Nat) (a1 : Int) (T : wq_T) (H : wq_H) : Option Value → wq_T → wq_H → Prop := fun r T' H' => T = T' ∧ H = H' ∧ ∃ z : Int, some (vI z) = r ∧ (0 ≤ z ∧ z ≤ 1) ∧ (z = 0 ∨ (H r0 3 ≠ -1 ∧ 0 ≤ a1 ∧ a1 ≤ 23))
set_option maxHeartbeats 4000000 in
theorem s_218 {kt : Nat → Option mc_E} {T : wq_T} {H : wq_H} {r0 : Nat} {a1 : Int} (hW : WT T H) (g0 : T.2.2.2 r0 = some 42) (i1 : (-2147483648) ≤ a1 ∧ a1 ≤ 2147483647) : wpc kt 1 218 [.ref r0, vI a1] T H (q_218 r0 a1 T H) := by
  refine wp_enter e218 (Nat.le_of_ble_eq_true rfl) rfl ?_
  show wp _ _ 218 0 [(0, .ref r0), (1, vI a1)] [] _ H _
  refine wp_of e218 c218_0 (rw_aload_n (pc' := 1) (v := .ref r0) rfl rfl rfl ?_)
  refine wp_of e218 c218_1 (xg_O (pc' := 4) lf_9_337 hW g0 sh_42 (by decide) (by decide) ty_42_3 rfl rfl (fun q129455 => ?_) (fun r129454 q129455 g129456 => ?_))
  · refine wp_of e218 c218_4 (rw_ifnull_n (p1 := 26) (p2 := 7) (by decide) rfl ?_)
    refine wp_of e218 c218_26 (rw_iconst (pc' := 27) rfl ?_)
    exact wp_zreturn e218 c218_27 rfl (by omega) ⟨rfl, rfl, 0, rfl, ⟨by omega, by omega⟩, by omega⟩
  · refine wp_of e218 c218_4 (rw_ifnull_r (p1 := 26) (p2 := 7) (by decide) rfl ?_)
    refine wp_of e218 c218_7 (rw_iload_n (pc' := 8) (z := a1) rfl rfl ?_)
    refine wp_of e218 c218_8 (rw_if_lt (p1 := 26) (p2 := 11) (by decide) rfl ⟨by omega, by omega⟩ (fun c129457 => ?_) (fun c129457 => ?_))
    · refine wp_of e218 c218_26 (rw_iconst (pc' := 27) rfl ?_)
      exact wp_zreturn e218 c218_27 rfl (by omega) ⟨rfl, rfl, 0, rfl, ⟨by omega, by omega⟩, by omega⟩
    · refine wp_of e218 c218_11 (rw_iload_n (pc' := 12) (z := a1) rfl rfl ?_)
      refine wp_of e218 c218_12 (rw_aload_n (pc' := 13) (v := .ref r0) rfl rfl rfl ?_)
      refine wp_of e218 c218_13 (xg_K (pc' := 16) lf_9_337 hW g0 sh_42 (by decide) (by decide) rfl q129455 rfl ?_)
      refine wp_of e218 c218_16 (xg_I (pc' := 19) lf_9_185 hW g129456 sh_54 (by decide) (by decide) ty_54_0 rfl rfl (fun b129458 b129459 => ?_))
      refine wp_of e218 c218_19 (rw_icmp_ge (p1 := 26) (p2 := 22) (by decide) rfl ⟨by omega, by omega⟩ ⟨by omega, by omega⟩ (fun c129460 => ?_) (fun c129460 => ?_))
      · refine wp_of e218 c218_26 (rw_iconst (pc' := 27) rfl ?_)
        exact wp_zreturn e218 c218_27 rfl (by omega) ⟨rfl, rfl, 0, rfl, ⟨by omega, by omega⟩, by omega⟩
      · refine wp_of e218 c218_22 (rw_iconst (pc' := 23) rfl ?_)
        refine wp_of e218 c218_23 (rw_goto (p1 := 27) (by decide) ?_)
        exact wp_zreturn e218 c218_27 rfl (by omega) ⟨rfl, rfl, 1, rfl, ⟨by omega, by omega⟩, by omega⟩
/-! StrikeAwakeModel.awake(III)I -/
theorem e217 : wq_en 217 = some (9, 4, false, some FieldType.int) := rfl
theorem cg217_0 : mc_cd 217 0 = some (.aload_n 0, 1) ∧ mc_cd 217 1 = some (.iconst 0, 1) ∧ mc_cd 217 2 = some (.putfield 48, 3) ∧ mc_cd 217 5 = some (.aload_n 0, 1) ∧ mc_cd 217 6 = some (.iload_n 1, 1) ∧ mc_cd 217 7 = some (.iload_n 2, 1) ∧ mc_cd 217 8 = some (.invokevirtual 367, 3) ∧ mc_cd 217 11 = some (.ifCond .eq 41, 3) := by decide +kernel
theorem c217_0 : mc_cd 217 0 = some (.aload_n 0, 1) := cg217_0.1
theorem c217_1 : mc_cd 217 1 = some (.iconst 0, 1) := cg217_0.2.1
theorem c217_2 : mc_cd 217 2 = some (.putfield 48, 3) := cg217_0.2.2.1
theorem c217_5 : mc_cd 217 5 = some (.aload_n 0, 1) := cg217_0.2.2.2.1
theorem c217_6 : mc_cd 217 6 = some (.iload_n 1, 1) := cg217_0.2.2.2.2.1
theorem c217_7 : mc_cd 217 7 = some (.iload_n 2, 1) := cg217_0.2.2.2.2.2.1
theorem c217_8 : mc_cd 217 8 = some (.invokevirtual 367, 3) := cg217_0.2.2.2.2.2.2.1
theorem c217_11 : mc_cd 217 11 = some (.ifCond .eq 41, 3) := cg217_0.2.2.2.2.2.2.2
theorem cg217_14 : mc_cd 217 14 = some (.aload_n 0, 1) ∧ mc_cd 217 15 = some (.iload_n 3, 1) ∧ mc_cd 217 16 = some (.invokevirtual 373, 3) ∧ mc_cd 217 19 = some (.ifCond .eq 33, 3) ∧ mc_cd 217 22 = some (.aload_n 0, 1) ∧ mc_cd 217 23 = some (.aload_n 0, 1) ∧ mc_cd 217 24 = some (.getfield 33, 3) ∧ mc_cd 217 27 = some (.bipush 40, 2) := by decide +kernel
theorem c217_14 : mc_cd 217 14 = some (.aload_n 0, 1) := cg217_14.1
theorem c217_15 : mc_cd 217 15 = some (.iload_n 3, 1) := cg217_14.2.1
theorem c217_16 : mc_cd 217 16 = some (.invokevirtual 373, 3) := cg217_14.2.2.1
theorem c217_19 : mc_cd 217 19 = some (.ifCond .eq 33, 3) := cg217_14.2.2.2.1
theorem c217_22 : mc_cd 217 22 = some (.aload_n 0, 1) := cg217_14.2.2.2.2.1
theorem c217_23 : mc_cd 217 23 = some (.aload_n 0, 1) := cg217_14.2.2.2.2.2.1
theorem c217_24 : mc_cd 217 24 = some (.getfield 33, 3) := cg217_14.2.2.2.2.2.2.1
theorem c217_27 : mc_cd 217 27 = some (.bipush 40, 2) := cg217_14.2.2.2.2.2.2.2
theorem cg217_29 : mc_cd 217 29 = some (.iload_n 1, 1) ∧ mc_cd 217 30 = some (.imul, 1) ∧ mc_cd 217 31 = some (.iload_n 2, 1) ∧ mc_cd 217 32 = some (.iadd, 1) ∧ mc_cd 217 33 = some (.iaload, 1) ∧ mc_cd 217 34 = some (.iload_n 3, 1) ∧ mc_cd 217 35 = some (.invokestatic 346, 3) ∧ mc_cd 217 38 = some (.ifCond .eq 7, 3) := by decide +kernel
theorem c217_29 : mc_cd 217 29 = some (.iload_n 1, 1) := cg217_29.1
theorem c217_30 : mc_cd 217 30 = some (.imul, 1) := cg217_29.2.1
theorem c217_31 : mc_cd 217 31 = some (.iload_n 2, 1) := cg217_29.2.2.1
theorem c217_32 : mc_cd 217 32 = some (.iadd, 1) := cg217_29.2.2.2.1
theorem c217_33 : mc_cd 217 33 = some (.iaload, 1) := cg217_29.2.2.2.2.1
theorem c217_34 : mc_cd 217 34 = some (.iload_n 3, 1) := cg217_29.2.2.2.2.2.1
theorem c217_35 : mc_cd 217 35 = some (.invokestatic 346, 3) := cg217_29.2.2.2.2.2.2.1
theorem c217_38 : mc_cd 217 38 = some (.ifCond .eq 7, 3) := cg217_29.2.2.2.2.2.2.2
theorem cg217_41 : mc_cd 217 41 = some (.iconst 1, 1) ∧ mc_cd 217 42 = some (.goto 4, 3) ∧ mc_cd 217 45 = some (.iconst 0, 1) ∧ mc_cd 217 46 = some (.invokevirtual 58, 3) ∧ mc_cd 217 49 = some (.goto 8, 3) ∧ mc_cd 217 52 = some (.aload_n 0, 1) ∧ mc_cd 217 53 = some (.iconst 1, 1) ∧ mc_cd 217 54 = some (.invokevirtual 54, 3) := by decide +kernel
theorem c217_41 : mc_cd 217 41 = some (.iconst 1, 1) := cg217_41.1
theorem c217_42 : mc_cd 217 42 = some (.goto 4, 3) := cg217_41.2.1
theorem c217_45 : mc_cd 217 45 = some (.iconst 0, 1) := cg217_41.2.2.1
theorem c217_46 : mc_cd 217 46 = some (.invokevirtual 58, 3) := cg217_41.2.2.2.1
theorem c217_49 : mc_cd 217 49 = some (.goto 8, 3) := cg217_41.2.2.2.2.1
theorem c217_52 : mc_cd 217 52 = some (.aload_n 0, 1) := cg217_41.2.2.2.2.2.1
theorem c217_53 : mc_cd 217 53 = some (.iconst 1, 1) := cg217_41.2.2.2.2.2.2.1
theorem c217_54 : mc_cd 217 54 = some (.invokevirtual 54, 3) := cg217_41.2.2.2.2.2.2.2
theorem c217_57 : mc_cd 217 57 = some (.ireturn, 1) := by decide +kernel
abbrev q_217 (r0 : Nat) (a1 : Int) (a2 : Int) (a3 : Int) (T : wq_T) (H : wq_H) : Option Value → wq_T → wq_H → Prop := fun r T' H' => T = T' ∧ WT T H' ∧ wfr [(42, 0), (42, 1), (42, 2)] T H H' ∧ ∃ z : Int, some (vI z) = r ∧ ((-2147483648) ≤ z ∧ z ≤ 2147483647) ∧ (wKI H' r0 = 1)
set_option maxHeartbeats 4000000 in
theorem s_217 {kt : Nat → Option mc_E} {T : wq_T} {H : wq_H} {r0 : Nat} {a1 : Int} {a2 : Int} {a3 : Int} (hW : WT T H) (g0 : T.2.2.2 r0 = some 42) (i1 : (-2147483648) ≤ a1 ∧ a1 ≤ 2147483647) (i2 : (-2147483648) ≤ a2 ∧ a2 ≤ 2147483647) (i3 : (-2147483648) ≤ a3 ∧ a3 ≤ 2147483647) (p0 : wKI H r0 = 1) : wpc kt 3 217 [.ref r0, vI a1, vI a2, vI a3] T H (q_217 r0 a1 a2 a3 T H) := by
  refine wp_enter e217 (Nat.le_of_ble_eq_true rfl) rfl ?_
  have f0 : wfr [(42, 0), (42, 1), (42, 2)] T H H := wfr.rf
  show wp _ _ 217 0 [(0, .ref r0), (1, vI a1), (2, vI a2), (3, vI a3)] [] _ H _
  refine wp_of e217 c217_0 (rw_aload_n (pc' := 1) (v := .ref r0) rfl rfl rfl ?_)
  refine wp_of e217 c217_1 (rw_iconst (pc' := 2) rfl ?_)
  refine wp_of e217 c217_2 (xp_I (pc' := 5) lf_9_48 hW g0 sh_42 (by decide) (by decide) ty_42_0 rfl rfl (by omega) (by omega) ⟨by omega, by omega⟩ rfl (fun H129551 e129552 w129553 => ?_))
  have f129554 := f0.put' e129552 g0 rfl
  have k129555 : H129551 r0 0 = 0 := wq_u_s e129552
  refine wp_of e217 c217_5 (rw_aload_n (pc' := 6) (v := .ref r0) rfl rfl rfl ?_)
  refine wp_of e217 c217_6 (rw_iload_n (pc' := 7) (z := a1) rfl rfl ?_)
  refine wp_of e217 c217_7 (rw_iload_n (pc' := 8) (z := a2) rfl rfl ?_)
  refine wp_of e217 c217_8 (xc_V (pc' := 11) (r := r0) (as := [vI a1, vI a2]) (st := []) (lm_9_367) rfl rfl (Nat.le_of_ble_eq_true rfl) w129553 g0 sh_42 (by decide) rfl (by decide) (s_215 w129553 g0 ⟨by omega, by omega⟩ ⟨by omega, by omega⟩) (fun R129556 T129557 H129558 p129559 => ?_))
  obtain ⟨e129560, e129562, z129564, e129561, b129565, p129563⟩ := p129559
  subst e129560
  subst e129561
  subst e129562
  show wp _ _ 217 11 [(0, .ref r0), (1, vI a1), (2, vI a2), (3, vI a3)] [vI z129564] _ H129551 _
  refine wp_of e217 c217_11 (rw_if_eq (p1 := 52) (p2 := 14) (by decide) rfl ⟨by omega, by omega⟩ (fun c129566 => ?_) (fun c129566 => ?_))
  · refine wp_of e217 c217_52 (rw_aload_n (pc' := 53) (v := .ref r0) rfl rfl rfl ?_)
    refine wp_of e217 c217_53 (rw_iconst (pc' := 54) rfl ?_)
    refine wp_of e217 c217_54 (xc_V (pc' := 57) (r := r0) (as := [vI 1]) (st := []) (lm_9_54) rfl rfl (Nat.le_of_ble_eq_true rfl) w129553 g0 sh_42 (by decide) rfl (by decide) (s_170 w129553 g0 ⟨by omega, by omega⟩) (fun R129567 T129568 H129569 p129570 => ?_))
    obtain ⟨e129571, w129573, f129574, z129575, e129572, b129576⟩ := p129570
    subst e129571
    subst e129572
    have f129577 := f129554.tr f129574 rfl
    show wp _ _ 217 57 [(0, .ref r0), (1, vI a1), (2, vI a2), (3, vI a3)] [vI z129575] _ H129569 _
    have k129578 : wKI H129569 r0 = wKI H r0 := ((wKI_fr w129553 g0 f129574 rfl).trans (wKI_fr hW g0 ((wfr.rf (l := [(42, 0)])).put' e129552 g0 rfl) rfl))
    exact wp_ireturn e217 c217_57 rfl ⟨rfl, w129573, f129577, z129575, rfl, ⟨by omega, by omega⟩, by omega⟩
  · refine wp_of e217 c217_14 (rw_aload_n (pc' := 15) (v := .ref r0) rfl rfl rfl ?_)
    refine wp_of e217 c217_15 (rw_iload_n (pc' := 16) (z := a3) rfl rfl ?_)
    refine wp_of e217 c217_16 (xc_V (pc' := 19) (r := r0) (as := [vI a3]) (st := []) (lm_9_373) rfl rfl (Nat.le_of_ble_eq_true rfl) w129553 g0 sh_42 (by decide) rfl (by decide) (s_218 w129553 g0 ⟨by omega, by omega⟩) (fun R129579 T129580 H129581 p129582 => ?_))
    obtain ⟨e129583, e129585, z129587, e129584, b129588, p129586⟩ := p129582
    subst e129583
    subst e129584
    subst e129585
    show wp _ _ 217 19 [(0, .ref r0), (1, vI a1), (2, vI a2), (3, vI a3)] [vI z129587] _ H129551 _
    refine wp_of e217 c217_19 (rw_if_eq (p1 := 52) (p2 := 22) (by decide) rfl ⟨by omega, by omega⟩ (fun c129589 => ?_) (fun c129589 => ?_))
    · refine wp_of e217 c217_52 (rw_aload_n (pc' := 53) (v := .ref r0) rfl rfl rfl ?_)
      refine wp_of e217 c217_53 (rw_iconst (pc' := 54) rfl ?_)
      refine wp_of e217 c217_54 (xc_V (pc' := 57) (r := r0) (as := [vI 1]) (st := []) (lm_9_54) rfl rfl (Nat.le_of_ble_eq_true rfl) w129553 g0 sh_42 (by decide) rfl (by decide) (s_170 w129553 g0 ⟨by omega, by omega⟩) (fun R129590 T129591 H129592 p129593 => ?_))
      obtain ⟨e129594, w129596, f129597, z129598, e129595, b129599⟩ := p129593
      subst e129594
      subst e129595
      have f129600 := f129554.tr f129597 rfl
      show wp _ _ 217 57 [(0, .ref r0), (1, vI a1), (2, vI a2), (3, vI a3)] [vI z129598] _ H129592 _
      have k129601 : wKI H129592 r0 = wKI H r0 := ((wKI_fr w129553 g0 f129597 rfl).trans (wKI_fr hW g0 ((wfr.rf (l := [(42, 0)])).put' e129552 g0 rfl) rfl))
      exact wp_ireturn e217 c217_57 rfl ⟨rfl, w129596, f129600, z129598, rfl, ⟨by omega, by omega⟩, by omega⟩
    · refine wp_of e217 c217_22 (rw_aload_n (pc' := 23) (v := .ref r0) rfl rfl rfl ?_)
      refine wp_of e217 c217_23 (rw_aload_n (pc' := 24) (v := .ref r0) rfl rfl rfl ?_)
      refine wp_of e217 c217_24 (xg_R (pc' := 27) lf_9_33 w129553 g0 sh_42 (by decide) (by decide) ty_42_25 rfl rfl (fun r129602 q129603 g129604 => ?_))
      refine wp_of e217 c217_27 (rw_bipush (pc' := 29) (z := 40) rfl (by decide) ?_)
      refine wp_of e217 c217_29 (rw_iload_n (pc' := 30) (z := a1) rfl rfl ?_)
      refine wp_of e217 c217_30 (rw_imul (pc' := 31) rfl ?_)
      refine wp_of e217 c217_31 (rw_iload_n (pc' := 32) (z := a2) rfl rfl ?_)
      refine wp_of e217 c217_32 (rw_iadd (pc' := 33) rfl ?_)
      refine wp_of e217 c217_33 (xa_I (so := 0) (pc' := 34) w129553 g129604 sh_49 (by decide) (ty_49 _) (by omega) (by omega) rfl (fun b129605 b129606 => ?_))
      refine wp_of e217 c217_34 (rw_iload_n (pc' := 35) (z := a3) rfl rfl ?_)
      refine wp_of e217 c217_35 (xc_S (pc' := 38) (as := [vI (H129551 r129602 (((40 * a1) + a2).toNat)), vI a3]) (st := [.ref r0]) (lm_9_346) rfl rfl (Nat.le_of_ble_eq_true rfl) rfl (by decide) (s_205 w129553 ⟨by omega, by omega⟩ ⟨by omega, by omega⟩) (fun R129607 T129608 H129609 p129610 => ?_))
      obtain ⟨e129611, e129613, z129614, e129612, b129615⟩ := p129610
      subst e129611
      subst e129612
      subst e129613
      show wp _ _ 217 38 [(0, .ref r0), (1, vI a1), (2, vI a2), (3, vI a3)] [vI z129614, .ref r0] _ H129551 _
      refine wp_of e217 c217_38 (rw_if_eq (p1 := 45) (p2 := 41) (by decide) rfl ⟨by omega, by omega⟩ (fun c129616 => ?_) (fun c129616 => ?_))
      · refine wp_of e217 c217_45 (rw_iconst (pc' := 46) rfl ?_)
        refine wp_of e217 c217_46 (xc_V (pc' := 49) (r := r0) (as := [vI 0]) (st := []) (lm_9_58) rfl rfl (Nat.le_of_ble_eq_true rfl) w129553 g0 sh_42 (by decide) rfl (by decide) (s_209 w129553 g0 ⟨by omega, by omega⟩) (fun R129617 T129618 H129619 p129620 => ?_))
        obtain ⟨e129621, w129623, f129624, z129625, e129622, b129626⟩ := p129620
        subst e129621
        subst e129622
        have f129627 := f129554.tr f129624 rfl
        show wp _ _ 217 49 [(0, .ref r0), (1, vI a1), (2, vI a2), (3, vI a3)] [vI z129625] _ H129619 _
        refine wp_of e217 c217_49 (rw_goto (p1 := 57) (by decide) ?_)
        have k129628 : wKI H129619 r0 = wKI H r0 := ((wKI_fr w129553 g0 f129624 rfl).trans (wKI_fr hW g0 ((wfr.rf (l := [(42, 0)])).put' e129552 g0 rfl) rfl))
        exact wp_ireturn e217 c217_57 rfl ⟨rfl, w129623, f129627, z129625, rfl, ⟨by omega, by omega⟩, by omega⟩
      · refine wp_of e217 c217_41 (rw_iconst (pc' := 42) rfl ?_)
        refine wp_of e217 c217_42 (rw_goto (p1 := 46) (by decide) ?_)
        refine wp_of e217 c217_46 (xc_V (pc' := 49) (r := r0) (as := [vI 1]) (st := []) (lm_9_58) rfl rfl (Nat.le_of_ble_eq_true rfl) w129553 g0 sh_42 (by decide) rfl (by decide) (s_209 w129553 g0 ⟨by omega, by omega⟩) (fun R129629 T129630 H129631 p129632 => ?_))
        obtain ⟨e129633, w129635, f129636, z129637, e129634, b129638⟩ := p129632
        subst e129633
        subst e129634
        have f129639 := f129554.tr f129636 rfl
        show wp _ _ 217 49 [(0, .ref r0), (1, vI a1), (2, vI a2), (3, vI a3)] [vI z129637] _ H129631 _
        refine wp_of e217 c217_49 (rw_goto (p1 := 57) (by decide) ?_)
        have k129640 : wKI H129631 r0 = wKI H r0 := ((wKI_fr w129553 g0 f129636 rfl).trans (wKI_fr hW g0 ((wfr.rf (l := [(42, 0)])).put' e129552 g0 rfl) rfl))
        exact wp_ireturn e217 c217_57 rfl ⟨rfl, w129635, f129639, z129637, rfl, ⟨by omega, by omega⟩, by omega⟩
/-! StrikeAwakeModel.lotsMany()J -/
theorem e220 : wq_en 220 = some (9, 4, false, some FieldType.long) := rfl
theorem cg220_0 : mc_cd 220 0 = some (.lconst 1, 1) ∧ mc_cd 220 1 = some (.lstore_n 1, 1) ∧ mc_cd 220 2 = some (.iconst 0, 1) ∧ mc_cd 220 3 = some (.istore_n 3, 1) ∧ mc_cd 220 4 = some (.iload_n 3, 1) ∧ mc_cd 220 5 = some (.aload_n 0, 1) ∧ mc_cd 220 6 = some (.getfield 337, 3) ∧ mc_cd 220 9 = some (.getfield 188, 3) := by decide +kernel
theorem c220_0 : mc_cd 220 0 = some (.lconst 1, 1) := cg220_0.1
theorem c220_1 : mc_cd 220 1 = some (.lstore_n 1, 1) := cg220_0.2.1
theorem c220_2 : mc_cd 220 2 = some (.iconst 0, 1) := cg220_0.2.2.1
theorem c220_3 : mc_cd 220 3 = some (.istore_n 3, 1) := cg220_0.2.2.2.1
theorem c220_4 : mc_cd 220 4 = some (.iload_n 3, 1) := cg220_0.2.2.2.2.1
theorem c220_5 : mc_cd 220 5 = some (.aload_n 0, 1) := cg220_0.2.2.2.2.2.1
theorem c220_6 : mc_cd 220 6 = some (.getfield 337, 3) := cg220_0.2.2.2.2.2.2.1
theorem c220_9 : mc_cd 220 9 = some (.getfield 188, 3) := cg220_0.2.2.2.2.2.2.2
theorem cg220_12 : mc_cd 220 12 = some (.if_icmp .ge 19, 3) ∧ mc_cd 220 15 = some (.lload_n 1, 1) ∧ mc_cd 220 16 = some (.aload_n 0, 1) ∧ mc_cd 220 17 = some (.getfield 21, 3) ∧ mc_cd 220 20 = some (.iload_n 3, 1) ∧ mc_cd 220 21 = some (.iaload, 1) ∧ mc_cd 220 22 = some (.i2l, 1) ∧ mc_cd 220 23 = some (.lmul, 1) := by decide +kernel
theorem c220_12 : mc_cd 220 12 = some (.if_icmp .ge 19, 3) := cg220_12.1
theorem c220_15 : mc_cd 220 15 = some (.lload_n 1, 1) := cg220_12.2.1
theorem c220_16 : mc_cd 220 16 = some (.aload_n 0, 1) := cg220_12.2.2.1
theorem c220_17 : mc_cd 220 17 = some (.getfield 21, 3) := cg220_12.2.2.2.1
theorem c220_20 : mc_cd 220 20 = some (.iload_n 3, 1) := cg220_12.2.2.2.2.1
theorem c220_21 : mc_cd 220 21 = some (.iaload, 1) := cg220_12.2.2.2.2.2.1
theorem c220_22 : mc_cd 220 22 = some (.i2l, 1) := cg220_12.2.2.2.2.2.2.1
theorem c220_23 : mc_cd 220 23 = some (.lmul, 1) := cg220_12.2.2.2.2.2.2.2
theorem cg220_24 : mc_cd 220 24 = some (.lstore_n 1, 1) ∧ mc_cd 220 25 = some (.iinc 3 1, 3) ∧ mc_cd 220 28 = some (.goto (-24), 3) ∧ mc_cd 220 31 = some (.lload_n 1, 1) ∧ mc_cd 220 32 = some (.lreturn, 1) := by decide +kernel
theorem c220_24 : mc_cd 220 24 = some (.lstore_n 1, 1) := cg220_24.1
theorem c220_25 : mc_cd 220 25 = some (.iinc 3 1, 3) := cg220_24.2.1
theorem c220_28 : mc_cd 220 28 = some (.goto (-24), 3) := cg220_24.2.2.1
theorem c220_31 : mc_cd 220 31 = some (.lload_n 1, 1) := cg220_24.2.2.2.1
theorem c220_32 : mc_cd 220 32 = some (.lreturn, 1) := cg220_24.2.2.2.2
abbrev q_220 (r0 : Nat) (pp : Nat) (T : wq_T) (H : wq_H) : Option Value → wq_T → wq_H → Prop := fun r T' H' => T = T' ∧ H = H' ∧ ∃ z : Int, some (vL z) = r ∧ (0 ≤ z ∧ z ≤ 4096000000) ∧ (z = wLM H r0)
set_option maxHeartbeats 4000000 in
theorem s_220 {kt : Nat → Option mc_E} {T : wq_T} {H : wq_H} {r0 : Nat} {pp : Nat} (hW : WT T H) (g0 : T.2.2.2 r0 = some 42) (qpp : H r0 3 = (pp : Int)) (gpp : T.2.2.2 pp = some 54) : wpc kt 1 220 [.ref r0] T H (q_220 r0 pp T H) := by
  refine wp_enter e220 (Nat.le_of_ble_eq_true rfl) rfl ?_
  show wp _ _ 220 0 [(0, .ref r0)] [] _ H _
  refine wp_of e220 c220_0 (rw_lconst (pc' := 1) (z := 1) rfl rfl ?_)
  refine wp_of e220 c220_1 (rw_lstore_n (pc' := 2) (z := 1) (L' := [(1, vL 1), (0, .ref r0)]) rfl rfl rfl ?_)
  refine wp_of e220 c220_2 (rw_iconst (pc' := 3) rfl ?_)
  refine wp_of e220 c220_3 (rw_istore_n (pc' := 4) (z := 0) (L' := [(3, vI 0), (1, vL 1), (0, .ref r0)]) rfl rfl rfl ?_)
  obtain ⟨r129821, q129822, g129823⟩ := hW.ref g0 (t' := 45) (n := 33) (j := 21) (p := 0) (q := 0) rfl (by decide) rfl
  have b129824 : 0 ≤ H pp 3 ∧ H pp 3 ≤ 6 := hW.box gpp (n := 27) rfl (by decide) rfl
  have lp129816 : ∀ (n129817 : Nat) (v129819 : Int) (v129820 : Int), (0 ≤ v129819 ∧ v129819 ≤ 6) → (0 ≤ v129820 ∧ v129820 ≤ 4096000000) → (v129819 ≤ H pp 3) → (v129820 = wpr (H r129821) (v129819).toNat) → (6 - v129819).toNat = n129817 → wp kt 0 220 4 [(3, vI v129819), (1, vL v129820), (0, .ref r0)] [] T H (q_220 r0 pp T H) := by
    intro n129817
    induction n129817 using Nat.strongRecOn with
    | _ n129817 ih129818 =>
      intro v129819 v129820 b129827 b129828 x129829 x129830 m129831
      have hx : H pp 3 = v129819 → v129820 = wLM H r0 := fun q => by
        rw [wLM_eq qpp q129822, q]
        assumption
      have hb := (wpr_b (f := H r129821) (fun j hj => hW.box g129823 (n := 6) rfl hj rfl) (v129819).toNat (by omega)).2
      have hc := w40 (n := (v129819).toNat) (by omega)
      refine wp_of e220 c220_4 (rw_iload_n (pc' := 5) (z := v129819) rfl rfl ?_)
      refine wp_of e220 c220_5 (rw_aload_n (pc' := 6) (v := .ref r0) rfl rfl rfl ?_)
      refine wp_of e220 c220_6 (xg_K (pc' := 9) lf_9_337 hW g0 sh_42 (by decide) (by decide) rfl qpp rfl ?_)
      refine wp_of e220 c220_9 (xg_I (pc' := 12) lf_9_188 hW gpp sh_54 (by decide) (by decide) ty_54_3 rfl rfl (fun b129832 b129833 => ?_))
      refine wp_of e220 c220_12 (rw_icmp_ge (p1 := 31) (p2 := 15) (by decide) rfl ⟨by omega, by omega⟩ ⟨by omega, by omega⟩ (fun c129834 => ?_) (fun c129834 => ?_))
      · refine wp_of e220 c220_31 (rw_lload_n (pc' := 32) (z := v129820) rfl rfl ?_)
        exact wp_lreturn e220 c220_32 rfl ⟨rfl, rfl, v129820, rfl, ⟨by omega, by omega⟩, by omega⟩
      · refine wp_of e220 c220_15 (rw_lload_n (pc' := 16) (z := v129820) rfl rfl ?_)
        refine wp_of e220 c220_16 (rw_aload_n (pc' := 17) (v := .ref r0) rfl rfl rfl ?_)
        refine wp_of e220 c220_17 (xg_K (pc' := 20) lf_9_21 hW g0 sh_42 (by decide) (by decide) rfl q129822 rfl ?_)
        refine wp_of e220 c220_20 (rw_iload_n (pc' := 21) (z := v129819) rfl rfl ?_)
        refine wp_of e220 c220_21 (xa_I (so := 0) (pc' := 22) hW g129823 sh_45 (by decide) (ty_45 _) (by omega) (by omega) rfl (fun b129835 b129836 => ?_))
        refine wp_of e220 c220_22 (rw_i2l (pc' := 23) rfl ⟨by omega, by omega⟩ ?_)
        refine wp_of e220 c220_23 (rw_lmul (pc' := 24) rfl ?_)
        obtain ⟨v129837, e129838⟩ : ∃ x : Int, x = v129820 * (H r129821 (v129819.toNat)) := ⟨_, rfl⟩
        rw [← e129838]
        have b129839 : 0 ≤ v129837 ∧ v129837 ≤ 163840000000 := by
          rw [e129838]
          exact wl_mul_b (a := 4096000000) (b := 40) ⟨by omega, by omega⟩ ⟨by omega, by omega⟩
        refine wp_of e220 c220_24 (rw_lstore_n (pc' := 25) (z := v129837) (L' := [(1, vL v129837), (3, vI v129819), (0, .ref r0)]) rfl rfl rfl ?_)
        refine wp_of e220 c220_25 (rw_iinc (pc' := 28) (z := v129819) (L' := [(3, vI (v129819 + 1)), (1, vL v129837), (0, .ref r0)]) rfl rfl rfl rfl ?_)
        refine wp_of e220 c220_28 (rw_goto (p1 := 4) (by decide) ?_)
        have hy : v129837 = wpr (H r129821) ((v129819 + 1)).toNat := wpr_s (by assumption) (by assumption) (by omega)
        have hz := (wpr_b (f := H r129821) (fun j hj => hW.box g129823 (n := 6) rfl hj rfl) ((v129819 + 1)).toNat (by omega)).2
        have hw := w40 (n := ((v129819 + 1)).toNat) (by omega)
        exact wp_lc (ks := [3, 1, 0]) (wl_c rfl (wl_c rfl (wl_c rfl wl_n))) rfl (by decide) (ih129818 _ (by omega) (v129819 + 1) v129837 ⟨by omega, by omega⟩ ⟨by omega, by omega⟩ (by omega) (by assumption) rfl)
  exact wp_lc (ks := [3, 1, 0]) (wl_c rfl (wl_c rfl (wl_c rfl wl_n))) rfl (by decide) (lp129816 _ 0 1 ⟨by omega, by omega⟩ ⟨by omega, by omega⟩ (by omega) (rfl) rfl)
/-! StrikeAwakeModel.doneLong(J)J -/
theorem e221 : wq_en 221 = some (9, 3, false, some FieldType.long) := rfl
theorem cg221_0 : mc_cd 221 0 = some (.aload_n 0, 1) ∧ mc_cd 221 1 = some (.iconst 0, 1) ∧ mc_cd 221 2 = some (.invokevirtual 58, 3) ∧ mc_cd 221 5 = some (.pop, 1) ∧ mc_cd 221 6 = some (.lload_n 1, 1) ∧ mc_cd 221 7 = some (.lreturn, 1) := by decide +kernel
theorem c221_0 : mc_cd 221 0 = some (.aload_n 0, 1) := cg221_0.1
theorem c221_1 : mc_cd 221 1 = some (.iconst 0, 1) := cg221_0.2.1
theorem c221_2 : mc_cd 221 2 = some (.invokevirtual 58, 3) := cg221_0.2.2.1
theorem c221_5 : mc_cd 221 5 = some (.pop, 1) := cg221_0.2.2.2.1
theorem c221_6 : mc_cd 221 6 = some (.lload_n 1, 1) := cg221_0.2.2.2.2.1
theorem c221_7 : mc_cd 221 7 = some (.lreturn, 1) := cg221_0.2.2.2.2.2
abbrev q_221 (r0 : Nat) (a1 : Int) (T : wq_T) (H : wq_H) : Option Value → wq_T → wq_H → Prop := fun r T' H' => T = T' ∧ WT T H' ∧ wfr [(42, 1), (42, 2)] T H H' ∧ ∃ z : Int, some (vL z) = r ∧ ((-9223372036854775808) ≤ z ∧ z ≤ 9223372036854775807)
set_option maxHeartbeats 4000000 in
theorem s_221 {kt : Nat → Option mc_E} {T : wq_T} {H : wq_H} {r0 : Nat} {a1 : Int} (hW : WT T H) (g0 : T.2.2.2 r0 = some 42) (i1 : (-9223372036854775808) ≤ a1 ∧ a1 ≤ 9223372036854775807) : wpc kt 2 221 [.ref r0, vL a1] T H (q_221 r0 a1 T H) := by
  refine wp_enter e221 (Nat.le_of_ble_eq_true rfl) rfl ?_
  have f0 : wfr [(42, 1), (42, 2)] T H H := wfr.rf
  show wp _ _ 221 0 [(0, .ref r0), (1, vL a1)] [] _ H _
  refine wp_of e221 c221_0 (rw_aload_n (pc' := 1) (v := .ref r0) rfl rfl rfl ?_)
  refine wp_of e221 c221_1 (rw_iconst (pc' := 2) rfl ?_)
  refine wp_of e221 c221_2 (xc_V (pc' := 5) (r := r0) (as := [vI 0]) (st := []) (lm_9_58) rfl rfl (Nat.le_of_ble_eq_true rfl) hW g0 sh_42 (by decide) rfl (by decide) (s_209 hW g0 ⟨by omega, by omega⟩) (fun R129851 T129852 H129853 p129854 => ?_))
  obtain ⟨e129855, w129857, f129858, z129859, e129856, b129860⟩ := p129854
  subst e129855
  subst e129856
  have f129861 := f0.tr f129858 rfl
  show wp _ _ 221 5 [(0, .ref r0), (1, vL a1)] [vI z129859] _ H129853 _
  refine wp_of e221 c221_5 (rw_pop (pc' := 6) rfl rfl ?_)
  refine wp_of e221 c221_6 (rw_lload_n (pc' := 7) (z := a1) rfl rfl ?_)
  exact wp_lreturn e221 c221_7 rfl ⟨rfl, w129857, f129861, a1, rfl, ⟨by omega, by omega⟩⟩
/-! StrikeAwakeModel.lots()J -/
theorem e219 : wq_en 219 = some (9, 1, false, some FieldType.long) := rfl
theorem cg219_0 : mc_cd 219 0 = some (.aload_n 0, 1) ∧ mc_cd 219 1 = some (.iconst 0, 1) ∧ mc_cd 219 2 = some (.putfield 48, 3) ∧ mc_cd 219 5 = some (.aload_n 0, 1) ∧ mc_cd 219 6 = some (.getfield 337, 3) ∧ mc_cd 219 9 = some (.ifnonnull 12, 3) ∧ mc_cd 219 12 = some (.aload_n 0, 1) ∧ mc_cd 219 13 = some (.iconst 1, 1) := by decide +kernel
theorem c219_0 : mc_cd 219 0 = some (.aload_n 0, 1) := cg219_0.1
theorem c219_1 : mc_cd 219 1 = some (.iconst 0, 1) := cg219_0.2.1
theorem c219_2 : mc_cd 219 2 = some (.putfield 48, 3) := cg219_0.2.2.1
theorem c219_5 : mc_cd 219 5 = some (.aload_n 0, 1) := cg219_0.2.2.2.1
theorem c219_6 : mc_cd 219 6 = some (.getfield 337, 3) := cg219_0.2.2.2.2.1
theorem c219_9 : mc_cd 219 9 = some (.ifnonnull 12, 3) := cg219_0.2.2.2.2.2.1
theorem c219_12 : mc_cd 219 12 = some (.aload_n 0, 1) := cg219_0.2.2.2.2.2.2.1
theorem c219_13 : mc_cd 219 13 = some (.iconst 1, 1) := cg219_0.2.2.2.2.2.2.2
theorem cg219_14 : mc_cd 219 14 = some (.invokevirtual 54, 3) ∧ mc_cd 219 17 = some (.i2l, 1) ∧ mc_cd 219 18 = some (.goto 11, 3) ∧ mc_cd 219 21 = some (.aload_n 0, 1) ∧ mc_cd 219 22 = some (.aload_n 0, 1) ∧ mc_cd 219 23 = some (.invokevirtual 376, 3) ∧ mc_cd 219 26 = some (.invokevirtual 380, 3) ∧ mc_cd 219 29 = some (.lreturn, 1) := by decide +kernel
theorem c219_14 : mc_cd 219 14 = some (.invokevirtual 54, 3) := cg219_14.1
theorem c219_17 : mc_cd 219 17 = some (.i2l, 1) := cg219_14.2.1
theorem c219_18 : mc_cd 219 18 = some (.goto 11, 3) := cg219_14.2.2.1
theorem c219_21 : mc_cd 219 21 = some (.aload_n 0, 1) := cg219_14.2.2.2.1
theorem c219_22 : mc_cd 219 22 = some (.aload_n 0, 1) := cg219_14.2.2.2.2.1
theorem c219_23 : mc_cd 219 23 = some (.invokevirtual 376, 3) := cg219_14.2.2.2.2.2.1
theorem c219_26 : mc_cd 219 26 = some (.invokevirtual 380, 3) := cg219_14.2.2.2.2.2.2.1
theorem c219_29 : mc_cd 219 29 = some (.lreturn, 1) := cg219_14.2.2.2.2.2.2.2
abbrev q_219 (r0 : Nat) (T : wq_T) (H : wq_H) : Option Value → wq_T → wq_H → Prop := fun r T' H' => T = T' ∧ WT T H' ∧ wfr [(42, 0), (42, 1), (42, 2)] T H H' ∧ ∃ z : Int, some (vL z) = r ∧ ((-9223372036854775808) ≤ z ∧ z ≤ 9223372036854775807) ∧ (wKI H' r0 = 1)
set_option maxHeartbeats 4000000 in
theorem s_219 {kt : Nat → Option mc_E} {T : wq_T} {H : wq_H} {r0 : Nat} (hW : WT T H) (g0 : T.2.2.2 r0 = some 42) (p0 : wKI H r0 = 1) : wpc kt 3 219 [.ref r0] T H (q_219 r0 T H) := by
  refine wp_enter e219 (Nat.le_of_ble_eq_true rfl) rfl ?_
  have f0 : wfr [(42, 0), (42, 1), (42, 2)] T H H := wfr.rf
  show wp _ _ 219 0 [(0, .ref r0)] [] _ H _
  refine wp_of e219 c219_0 (rw_aload_n (pc' := 1) (v := .ref r0) rfl rfl rfl ?_)
  refine wp_of e219 c219_1 (rw_iconst (pc' := 2) rfl ?_)
  refine wp_of e219 c219_2 (xp_I (pc' := 5) lf_9_48 hW g0 sh_42 (by decide) (by decide) ty_42_0 rfl rfl (by omega) (by omega) ⟨by omega, by omega⟩ rfl (fun H129904 e129905 w129906 => ?_))
  have f129907 := f0.put' e129905 g0 rfl
  have k129908 : H129904 r0 0 = 0 := wq_u_s e129905
  refine wp_of e219 c219_5 (rw_aload_n (pc' := 6) (v := .ref r0) rfl rfl rfl ?_)
  refine wp_of e219 c219_6 (xg_O (pc' := 9) lf_9_337 w129906 g0 sh_42 (by decide) (by decide) ty_42_3 rfl rfl (fun q129910 => ?_) (fun r129909 q129910 g129911 => ?_))
  · refine wp_of e219 c219_9 (rw_ifnonnull_n (p1 := 21) (p2 := 12) (by decide) rfl ?_)
    refine wp_of e219 c219_12 (rw_aload_n (pc' := 13) (v := .ref r0) rfl rfl rfl ?_)
    refine wp_of e219 c219_13 (rw_iconst (pc' := 14) rfl ?_)
    refine wp_of e219 c219_14 (xc_V (pc' := 17) (r := r0) (as := [vI 1]) (st := []) (lm_9_54) rfl rfl (Nat.le_of_ble_eq_true rfl) w129906 g0 sh_42 (by decide) rfl (by decide) (s_170 w129906 g0 ⟨by omega, by omega⟩) (fun R129912 T129913 H129914 p129915 => ?_))
    obtain ⟨e129916, w129918, f129919, z129920, e129917, b129921⟩ := p129915
    subst e129916
    subst e129917
    have f129922 := f129907.tr f129919 rfl
    show wp _ _ 219 17 [(0, .ref r0)] [vI z129920] _ H129914 _
    refine wp_of e219 c219_17 (rw_i2l (pc' := 18) rfl ⟨by omega, by omega⟩ ?_)
    refine wp_of e219 c219_18 (rw_goto (p1 := 29) (by decide) ?_)
    have k129923 : wKI H129914 r0 = wKI H r0 := ((wKI_fr w129906 g0 f129919 rfl).trans (wKI_fr hW g0 ((wfr.rf (l := [(42, 0)])).put' e129905 g0 rfl) rfl))
    exact wp_lreturn e219 c219_29 rfl ⟨rfl, w129918, f129922, z129920, rfl, ⟨by omega, by omega⟩, by omega⟩
  · refine wp_of e219 c219_9 (rw_ifnonnull_r (p1 := 21) (p2 := 12) (by decide) rfl ?_)
    refine wp_of e219 c219_21 (rw_aload_n (pc' := 22) (v := .ref r0) rfl rfl rfl ?_)
    refine wp_of e219 c219_22 (rw_aload_n (pc' := 23) (v := .ref r0) rfl rfl rfl ?_)
    refine wp_of e219 c219_23 (xc_V (pc' := 26) (r := r0) (as := []) (st := [.ref r0]) (lm_9_376) rfl rfl (Nat.le_of_ble_eq_true rfl) w129906 g0 sh_42 (by decide) rfl (by decide) (s_220 w129906 g0 q129910 g129911) (fun R129924 T129925 H129926 p129927 => ?_))
    obtain ⟨e129928, e129930, z129932, e129929, b129933, p129931⟩ := p129927
    subst e129928
    subst e129929
    subst e129930
    show wp _ _ 219 26 [(0, .ref r0)] [vL z129932, .ref r0] _ H129904 _
    refine wp_of e219 c219_26 (xc_V (pc' := 29) (r := r0) (as := [vL z129932]) (st := []) (lm_9_380) rfl rfl (Nat.le_of_ble_eq_true rfl) w129906 g0 sh_42 (by decide) rfl (by decide) (s_221 w129906 g0 ⟨by omega, by omega⟩) (fun R129934 T129935 H129936 p129937 => ?_))
    obtain ⟨e129938, w129940, f129941, z129942, e129939, b129943⟩ := p129937
    subst e129938
    subst e129939
    have f129944 := f129907.tr f129941 rfl
    show wp _ _ 219 29 [(0, .ref r0)] [vL z129942] _ H129936 _
    have k129945 : wKI H129936 r0 = wKI H r0 := ((wKI_fr w129906 g0 f129941 rfl).trans (wKI_fr hW g0 ((wfr.rf (l := [(42, 0)])).put' e129905 g0 rfl) rfl))
    exact wp_lreturn e219 c219_29 rfl ⟨rfl, w129940, f129944, z129942, rfl, ⟨by omega, by omega⟩, by omega⟩
/-! StrikeAwakeModel.denied(I)Z -/
theorem e223 : wq_en 223 = some (9, 2, false, some FieldType.boolean) := rfl
theorem cg223_0 : mc_cd 223 0 = some (.aload_n 0, 1) ∧ mc_cd 223 1 = some (.iload_n 1, 1) ∧ mc_cd 223 2 = some (.invokevirtual 54, 3) ∧ mc_cd 223 5 = some (.pop, 1) ∧ mc_cd 223 6 = some (.iconst 0, 1) ∧ mc_cd 223 7 = some (.ireturn, 1) := by decide +kernel
theorem c223_0 : mc_cd 223 0 = some (.aload_n 0, 1) := cg223_0.1
theorem c223_1 : mc_cd 223 1 = some (.iload_n 1, 1) := cg223_0.2.1
theorem c223_2 : mc_cd 223 2 = some (.invokevirtual 54, 3) := cg223_0.2.2.1
theorem c223_5 : mc_cd 223 5 = some (.pop, 1) := cg223_0.2.2.2.1
theorem c223_6 : mc_cd 223 6 = some (.iconst 0, 1) := cg223_0.2.2.2.2.1
theorem c223_7 : mc_cd 223 7 = some (.ireturn, 1) := cg223_0.2.2.2.2.2
abbrev q_223 (r0 : Nat) (a1 : Int) (T : wq_T) (H : wq_H) : Option Value → wq_T → wq_H → Prop := fun r T' H' => T = T' ∧ WT T H' ∧ wfr [(42, 1), (42, 2)] T H H' ∧ ∃ z : Int, some (vI z) = r ∧ (0 ≤ z ∧ z ≤ 1)
set_option maxHeartbeats 4000000 in
theorem s_223 {kt : Nat → Option mc_E} {T : wq_T} {H : wq_H} {r0 : Nat} {a1 : Int} (hW : WT T H) (g0 : T.2.2.2 r0 = some 42) (i1 : (-2147483648) ≤ a1 ∧ a1 ≤ 2147483647) : wpc kt 2 223 [.ref r0, vI a1] T H (q_223 r0 a1 T H) := by
  refine wp_enter e223 (Nat.le_of_ble_eq_true rfl) rfl ?_
  have f0 : wfr [(42, 1), (42, 2)] T H H := wfr.rf
  show wp _ _ 223 0 [(0, .ref r0), (1, vI a1)] [] _ H _
  refine wp_of e223 c223_0 (rw_aload_n (pc' := 1) (v := .ref r0) rfl rfl rfl ?_)
  refine wp_of e223 c223_1 (rw_iload_n (pc' := 2) (z := a1) rfl rfl ?_)
  refine wp_of e223 c223_2 (xc_V (pc' := 5) (r := r0) (as := [vI a1]) (st := []) (lm_9_54) rfl rfl (Nat.le_of_ble_eq_true rfl) hW g0 sh_42 (by decide) rfl (by decide) (s_170 hW g0 ⟨by omega, by omega⟩) (fun R129957 T129958 H129959 p129960 => ?_))
  obtain ⟨e129961, w129963, f129964, z129965, e129962, b129966⟩ := p129960
  subst e129961
  subst e129962
  have f129967 := f0.tr f129964 rfl
  show wp _ _ 223 5 [(0, .ref r0), (1, vI a1)] [vI z129965] _ H129959 _
  refine wp_of e223 c223_5 (rw_pop (pc' := 6) rfl rfl ?_)
  refine wp_of e223 c223_6 (rw_iconst (pc' := 7) rfl ?_)
  exact wp_zreturn e223 c223_7 rfl (by omega) ⟨rfl, w129963, f129967, 0, rfl, ⟨by omega, by omega⟩⟩
/-! StrikeAwakeModel.granted()Z -/
theorem e224 : wq_en 224 = some (9, 1, false, some FieldType.boolean) := rfl
theorem cg224_0 : mc_cd 224 0 = some (.aload_n 0, 1) ∧ mc_cd 224 1 = some (.iconst 0, 1) ∧ mc_cd 224 2 = some (.invokevirtual 58, 3) ∧ mc_cd 224 5 = some (.pop, 1) ∧ mc_cd 224 6 = some (.iconst 1, 1) ∧ mc_cd 224 7 = some (.ireturn, 1) := by decide +kernel
theorem c224_0 : mc_cd 224 0 = some (.aload_n 0, 1) := cg224_0.1
theorem c224_1 : mc_cd 224 1 = some (.iconst 0, 1) := cg224_0.2.1
theorem c224_2 : mc_cd 224 2 = some (.invokevirtual 58, 3) := cg224_0.2.2.1
theorem c224_5 : mc_cd 224 5 = some (.pop, 1) := cg224_0.2.2.2.1
theorem c224_6 : mc_cd 224 6 = some (.iconst 1, 1) := cg224_0.2.2.2.2.1
theorem c224_7 : mc_cd 224 7 = some (.ireturn, 1) := cg224_0.2.2.2.2.2
abbrev q_224 (r0 : Nat) (T : wq_T) (H : wq_H) : Option Value → wq_T → wq_H → Prop := fun r T' H' => T = T' ∧ WT T H' ∧ wfr [(42, 1), (42, 2)] T H H' ∧ ∃ z : Int, some (vI z) = r ∧ (0 ≤ z ∧ z ≤ 1)
set_option maxHeartbeats 4000000 in
theorem s_224 {kt : Nat → Option mc_E} {T : wq_T} {H : wq_H} {r0 : Nat} (hW : WT T H) (g0 : T.2.2.2 r0 = some 42) : wpc kt 2 224 [.ref r0] T H (q_224 r0 T H) := by
  refine wp_enter e224 (Nat.le_of_ble_eq_true rfl) rfl ?_
  have f0 : wfr [(42, 1), (42, 2)] T H H := wfr.rf
  show wp _ _ 224 0 [(0, .ref r0)] [] _ H _
  refine wp_of e224 c224_0 (rw_aload_n (pc' := 1) (v := .ref r0) rfl rfl rfl ?_)
  refine wp_of e224 c224_1 (rw_iconst (pc' := 2) rfl ?_)
  refine wp_of e224 c224_2 (xc_V (pc' := 5) (r := r0) (as := [vI 0]) (st := []) (lm_9_58) rfl rfl (Nat.le_of_ble_eq_true rfl) hW g0 sh_42 (by decide) rfl (by decide) (s_209 hW g0 ⟨by omega, by omega⟩) (fun R129979 T129980 H129981 p129982 => ?_))
  obtain ⟨e129983, w129985, f129986, z129987, e129984, b129988⟩ := p129982
  subst e129983
  subst e129984
  have f129989 := f0.tr f129986 rfl
  show wp _ _ 224 5 [(0, .ref r0)] [vI z129987] _ H129981 _
  refine wp_of e224 c224_5 (rw_pop (pc' := 6) rfl rfl ?_)
  refine wp_of e224 c224_6 (rw_iconst (pc' := 7) rfl ?_)
  exact wp_zreturn e224 c224_7 rfl (by omega) ⟨rfl, w129985, f129989, 1, rfl, ⟨by omega, by omega⟩⟩
/-! StrikeAwakeModel.say(II)Z -/
theorem e222 : wq_en 222 = some (9, 3, false, some FieldType.boolean) := rfl
theorem cg222_0 : mc_cd 222 0 = some (.aload_n 0, 1) ∧ mc_cd 222 1 = some (.iconst 0, 1) ∧ mc_cd 222 2 = some (.putfield 48, 3) ∧ mc_cd 222 5 = some (.aload_n 0, 1) ∧ mc_cd 222 6 = some (.iload_n 1, 1) ∧ mc_cd 222 7 = some (.iload_n 2, 1) ∧ mc_cd 222 8 = some (.invokevirtual 367, 3) ∧ mc_cd 222 11 = some (.ifCond .ne 9, 3) := by decide +kernel
theorem c222_0 : mc_cd 222 0 = some (.aload_n 0, 1) := cg222_0.1
theorem c222_1 : mc_cd 222 1 = some (.iconst 0, 1) := cg222_0.2.1
theorem c222_2 : mc_cd 222 2 = some (.putfield 48, 3) := cg222_0.2.2.1
theorem c222_5 : mc_cd 222 5 = some (.aload_n 0, 1) := cg222_0.2.2.2.1
theorem c222_6 : mc_cd 222 6 = some (.iload_n 1, 1) := cg222_0.2.2.2.2.1
theorem c222_7 : mc_cd 222 7 = some (.iload_n 2, 1) := cg222_0.2.2.2.2.2.1
theorem c222_8 : mc_cd 222 8 = some (.invokevirtual 367, 3) := cg222_0.2.2.2.2.2.2.1
theorem c222_11 : mc_cd 222 11 = some (.ifCond .ne 9, 3) := cg222_0.2.2.2.2.2.2.2
theorem cg222_14 : mc_cd 222 14 = some (.aload_n 0, 1) ∧ mc_cd 222 15 = some (.iconst 1, 1) ∧ mc_cd 222 16 = some (.invokevirtual 400, 3) ∧ mc_cd 222 19 = some (.ireturn, 1) ∧ mc_cd 222 20 = some (.aload_n 0, 1) ∧ mc_cd 222 21 = some (.getfield 36, 3) ∧ mc_cd 222 24 = some (.iload_n 1, 1) ∧ mc_cd 222 25 = some (.iload_n 2, 1) := by decide +kernel
theorem c222_14 : mc_cd 222 14 = some (.aload_n 0, 1) := cg222_14.1
theorem c222_15 : mc_cd 222 15 = some (.iconst 1, 1) := cg222_14.2.1
theorem c222_16 : mc_cd 222 16 = some (.invokevirtual 400, 3) := cg222_14.2.2.1
theorem c222_19 : mc_cd 222 19 = some (.ireturn, 1) := cg222_14.2.2.2.1
theorem c222_20 : mc_cd 222 20 = some (.aload_n 0, 1) := cg222_14.2.2.2.2.1
theorem c222_21 : mc_cd 222 21 = some (.getfield 36, 3) := cg222_14.2.2.2.2.2.1
theorem c222_24 : mc_cd 222 24 = some (.iload_n 1, 1) := cg222_14.2.2.2.2.2.2.1
theorem c222_25 : mc_cd 222 25 = some (.iload_n 2, 1) := cg222_14.2.2.2.2.2.2.2
theorem cg222_26 : mc_cd 222 26 = some (.iastore, 1) ∧ mc_cd 222 27 = some (.aload_n 0, 1) ∧ mc_cd 222 28 = some (.invokevirtual 403, 3) ∧ mc_cd 222 31 = some (.ireturn, 1) := by decide +kernel
theorem c222_26 : mc_cd 222 26 = some (.iastore, 1) := cg222_26.1
theorem c222_27 : mc_cd 222 27 = some (.aload_n 0, 1) := cg222_26.2.1
theorem c222_28 : mc_cd 222 28 = some (.invokevirtual 403, 3) := cg222_26.2.2.1
theorem c222_31 : mc_cd 222 31 = some (.ireturn, 1) := cg222_26.2.2.2
/-! StrikeAwakeModel.said(I)I -/
theorem e225 : wq_en 225 = some (9, 2, false, some FieldType.int) := rfl
theorem cg225_0 : mc_cd 225 0 = some (.aload_n 0, 1) ∧ mc_cd 225 1 = some (.iconst 0, 1) ∧ mc_cd 225 2 = some (.putfield 48, 3) ∧ mc_cd 225 5 = some (.aload_n 0, 1) ∧ mc_cd 225 6 = some (.iload_n 1, 1) ∧ mc_cd 225 7 = some (.invokevirtual 364, 3) ∧ mc_cd 225 10 = some (.ifCond .eq 25, 3) ∧ mc_cd 225 13 = some (.aload_n 0, 1) := by decide +kernel
theorem c225_0 : mc_cd 225 0 = some (.aload_n 0, 1) := cg225_0.1
theorem c225_1 : mc_cd 225 1 = some (.iconst 0, 1) := cg225_0.2.1
theorem c225_2 : mc_cd 225 2 = some (.putfield 48, 3) := cg225_0.2.2.1
theorem c225_5 : mc_cd 225 5 = some (.aload_n 0, 1) := cg225_0.2.2.2.1
theorem c225_6 : mc_cd 225 6 = some (.iload_n 1, 1) := cg225_0.2.2.2.2.1
theorem c225_7 : mc_cd 225 7 = some (.invokevirtual 364, 3) := cg225_0.2.2.2.2.2.1
theorem c225_10 : mc_cd 225 10 = some (.ifCond .eq 25, 3) := cg225_0.2.2.2.2.2.2.1
theorem c225_13 : mc_cd 225 13 = some (.aload_n 0, 1) := cg225_0.2.2.2.2.2.2.2
theorem cg225_14 : mc_cd 225 14 = some (.getfield 21, 3) ∧ mc_cd 225 17 = some (.iload_n 1, 1) ∧ mc_cd 225 18 = some (.iaload, 1) ∧ mc_cd 225 19 = some (.ifCond .le 16, 3) ∧ mc_cd 225 22 = some (.aload_n 0, 1) ∧ mc_cd 225 23 = some (.aload_n 0, 1) ∧ mc_cd 225 24 = some (.getfield 36, 3) ∧ mc_cd 225 27 = some (.iload_n 1, 1) := by decide +kernel
theorem c225_14 : mc_cd 225 14 = some (.getfield 21, 3) := cg225_14.1
theorem c225_17 : mc_cd 225 17 = some (.iload_n 1, 1) := cg225_14.2.1
theorem c225_18 : mc_cd 225 18 = some (.iaload, 1) := cg225_14.2.2.1
theorem c225_19 : mc_cd 225 19 = some (.ifCond .le 16, 3) := cg225_14.2.2.2.1
theorem c225_22 : mc_cd 225 22 = some (.aload_n 0, 1) := cg225_14.2.2.2.2.1
theorem c225_23 : mc_cd 225 23 = some (.aload_n 0, 1) := cg225_14.2.2.2.2.2.1
theorem c225_24 : mc_cd 225 24 = some (.getfield 36, 3) := cg225_14.2.2.2.2.2.2.1
theorem c225_27 : mc_cd 225 27 = some (.iload_n 1, 1) := cg225_14.2.2.2.2.2.2.2
theorem cg225_28 : mc_cd 225 28 = some (.iaload, 1) ∧ mc_cd 225 29 = some (.invokevirtual 58, 3) ∧ mc_cd 225 32 = some (.goto 8, 3) ∧ mc_cd 225 35 = some (.aload_n 0, 1) ∧ mc_cd 225 36 = some (.iconst 1, 1) ∧ mc_cd 225 37 = some (.invokevirtual 54, 3) ∧ mc_cd 225 40 = some (.ireturn, 1) := by decide +kernel
theorem c225_28 : mc_cd 225 28 = some (.iaload, 1) := cg225_28.1
theorem c225_29 : mc_cd 225 29 = some (.invokevirtual 58, 3) := cg225_28.2.1
theorem c225_32 : mc_cd 225 32 = some (.goto 8, 3) := cg225_28.2.2.1
theorem c225_35 : mc_cd 225 35 = some (.aload_n 0, 1) := cg225_28.2.2.2.1
theorem c225_36 : mc_cd 225 36 = some (.iconst 1, 1) := cg225_28.2.2.2.2.1
theorem c225_37 : mc_cd 225 37 = some (.invokevirtual 54, 3) := cg225_28.2.2.2.2.2.1
theorem c225_40 : mc_cd 225 40 = some (.ireturn, 1) := cg225_28.2.2.2.2.2.2
abbrev q_225 (r0 : Nat) (a1 : Int) (T : wq_T) (H : wq_H) : Option Value → wq_T → wq_H → Prop := fun r T' H' => T = T' ∧ WT T H' ∧ wfr [(42, 0), (42, 1), (42, 2)] T H H' ∧ ∃ z : Int, some (vI z) = r ∧ ((-2147483648) ≤ z ∧ z ≤ 2147483647) ∧ (wKI H' r0 = 1)
set_option maxHeartbeats 4000000 in
theorem s_225 {kt : Nat → Option mc_E} {T : wq_T} {H : wq_H} {r0 : Nat} {a1 : Int} (hW : WT T H) (g0 : T.2.2.2 r0 = some 42) (i1 : (-2147483648) ≤ a1 ∧ a1 ≤ 2147483647) (p0 : wKI H r0 = 1) : wpc kt 2 225 [.ref r0, vI a1] T H (q_225 r0 a1 T H) := by
  refine wp_enter e225 (Nat.le_of_ble_eq_true rfl) rfl ?_
  have f0 : wfr [(42, 0), (42, 1), (42, 2)] T H H := wfr.rf
  show wp _ _ 225 0 [(0, .ref r0), (1, vI a1)] [] _ H _
  refine wp_of e225 c225_0 (rw_aload_n (pc' := 1) (v := .ref r0) rfl rfl rfl ?_)
  refine wp_of e225 c225_1 (rw_iconst (pc' := 2) rfl ?_)
  refine wp_of e225 c225_2 (xp_I (pc' := 5) lf_9_48 hW g0 sh_42 (by decide) (by decide) ty_42_0 rfl rfl (by omega) (by omega) ⟨by omega, by omega⟩ rfl (fun H130147 e130148 w130149 => ?_))
  have f130150 := f0.put' e130148 g0 rfl
  have k130151 : H130147 r0 0 = 0 := wq_u_s e130148
  refine wp_of e225 c225_5 (rw_aload_n (pc' := 6) (v := .ref r0) rfl rfl rfl ?_)
  refine wp_of e225 c225_6 (rw_iload_n (pc' := 7) (z := a1) rfl rfl ?_)
  refine wp_of e225 c225_7 (xc_V (pc' := 10) (r := r0) (as := [vI a1]) (st := []) (lm_9_364) rfl rfl (Nat.le_of_ble_eq_true rfl) w130149 g0 sh_42 (by decide) rfl (by decide) (s_213 w130149 g0 ⟨by omega, by omega⟩) (fun R130152 T130153 H130154 p130155 => ?_))
  obtain ⟨e130156, e130158, z130160, e130157, b130161, p130159⟩ := p130155
  subst e130156
  subst e130157
  subst e130158
  show wp _ _ 225 10 [(0, .ref r0), (1, vI a1)] [vI z130160] _ H130147 _
  refine wp_of e225 c225_10 (rw_if_eq (p1 := 35) (p2 := 13) (by decide) rfl ⟨by omega, by omega⟩ (fun c130162 => ?_) (fun c130162 => ?_))
  · refine wp_of e225 c225_35 (rw_aload_n (pc' := 36) (v := .ref r0) rfl rfl rfl ?_)
    refine wp_of e225 c225_36 (rw_iconst (pc' := 37) rfl ?_)
    refine wp_of e225 c225_37 (xc_V (pc' := 40) (r := r0) (as := [vI 1]) (st := []) (lm_9_54) rfl rfl (Nat.le_of_ble_eq_true rfl) w130149 g0 sh_42 (by decide) rfl (by decide) (s_170 w130149 g0 ⟨by omega, by omega⟩) (fun R130163 T130164 H130165 p130166 => ?_))
    obtain ⟨e130167, w130169, f130170, z130171, e130168, b130172⟩ := p130166
    subst e130167
    subst e130168
    have f130173 := f130150.tr f130170 rfl
    show wp _ _ 225 40 [(0, .ref r0), (1, vI a1)] [vI z130171] _ H130165 _
    have k130174 : wKI H130165 r0 = wKI H r0 := ((wKI_fr w130149 g0 f130170 rfl).trans (wKI_fr hW g0 ((wfr.rf (l := [(42, 0)])).put' e130148 g0 rfl) rfl))
    exact wp_ireturn e225 c225_40 rfl ⟨rfl, w130169, f130173, z130171, rfl, ⟨by omega, by omega⟩, by omega⟩
  · refine wp_of e225 c225_13 (rw_aload_n (pc' := 14) (v := .ref r0) rfl rfl rfl ?_)
    refine wp_of e225 c225_14 (xg_R (pc' := 17) lf_9_21 w130149 g0 sh_42 (by decide) (by decide) ty_42_21 rfl rfl (fun r130175 q130176 g130177 => ?_))
    refine wp_of e225 c225_17 (rw_iload_n (pc' := 18) (z := a1) rfl rfl ?_)
    refine wp_of e225 c225_18 (xa_I (so := 0) (pc' := 19) w130149 g130177 sh_45 (by decide) (ty_45 _) (by omega) (by omega) rfl (fun b130178 b130179 => ?_))
    refine wp_of e225 c225_19 (rw_if_le (p1 := 35) (p2 := 22) (by decide) rfl ⟨by omega, by omega⟩ (fun c130180 => ?_) (fun c130180 => ?_))
    · refine wp_of e225 c225_35 (rw_aload_n (pc' := 36) (v := .ref r0) rfl rfl rfl ?_)
      refine wp_of e225 c225_36 (rw_iconst (pc' := 37) rfl ?_)
      refine wp_of e225 c225_37 (xc_V (pc' := 40) (r := r0) (as := [vI 1]) (st := []) (lm_9_54) rfl rfl (Nat.le_of_ble_eq_true rfl) w130149 g0 sh_42 (by decide) rfl (by decide) (s_170 w130149 g0 ⟨by omega, by omega⟩) (fun R130181 T130182 H130183 p130184 => ?_))
      obtain ⟨e130185, w130187, f130188, z130189, e130186, b130190⟩ := p130184
      subst e130185
      subst e130186
      have f130191 := f130150.tr f130188 rfl
      show wp _ _ 225 40 [(0, .ref r0), (1, vI a1)] [vI z130189] _ H130183 _
      have k130192 : wKI H130183 r0 = wKI H r0 := ((wKI_fr w130149 g0 f130188 rfl).trans (wKI_fr hW g0 ((wfr.rf (l := [(42, 0)])).put' e130148 g0 rfl) rfl))
      exact wp_ireturn e225 c225_40 rfl ⟨rfl, w130187, f130191, z130189, rfl, ⟨by omega, by omega⟩, by omega⟩
    · refine wp_of e225 c225_22 (rw_aload_n (pc' := 23) (v := .ref r0) rfl rfl rfl ?_)
      refine wp_of e225 c225_23 (rw_aload_n (pc' := 24) (v := .ref r0) rfl rfl rfl ?_)
      refine wp_of e225 c225_24 (xg_R (pc' := 27) lf_9_36 w130149 g0 sh_42 (by decide) (by decide) ty_42_26 rfl rfl (fun r130193 q130194 g130195 => ?_))
      refine wp_of e225 c225_27 (rw_iload_n (pc' := 28) (z := a1) rfl rfl ?_)
      refine wp_of e225 c225_28 (xa_I (so := 0) (pc' := 29) w130149 g130195 sh_50 (by decide) (ty_50 _) (by omega) (by omega) rfl (fun b130196 b130197 => ?_))
      refine wp_of e225 c225_29 (xc_V (pc' := 32) (r := r0) (as := [vI (H130147 r130193 (a1.toNat))]) (st := []) (lm_9_58) rfl rfl (Nat.le_of_ble_eq_true rfl) w130149 g0 sh_42 (by decide) rfl (by decide) (s_209 w130149 g0 ⟨by omega, by omega⟩) (fun R130198 T130199 H130200 p130201 => ?_))
      obtain ⟨e130202, w130204, f130205, z130206, e130203, b130207⟩ := p130201
      subst e130202
      subst e130203
      have f130208 := f130150.tr f130205 rfl
      show wp _ _ 225 32 [(0, .ref r0), (1, vI a1)] [vI z130206] _ H130200 _
      refine wp_of e225 c225_32 (rw_goto (p1 := 40) (by decide) ?_)
      have k130209 : wKI H130200 r0 = wKI H r0 := ((wKI_fr w130149 g0 f130205 rfl).trans (wKI_fr hW g0 ((wfr.rf (l := [(42, 0)])).put' e130148 g0 rfl) rfl))
      exact wp_ireturn e225 c225_40 rfl ⟨rfl, w130204, f130208, z130206, rfl, ⟨by omega, by omega⟩, by omega⟩
/-! StrikeAwakeModel.isEmpty()Z -/
theorem e227 : wq_en 227 = some (9, 1, false, some FieldType.boolean) := rfl
theorem cg227_0 : mc_cd 227 0 = some (.aload_n 0, 1) ∧ mc_cd 227 1 = some (.invokevirtual 376, 3) ∧ mc_cd 227 4 = some (.lconst 0, 1) ∧ mc_cd 227 5 = some (.lcmp, 1) ∧ mc_cd 227 6 = some (.ifCond .ne 7, 3) ∧ mc_cd 227 9 = some (.iconst 1, 1) ∧ mc_cd 227 10 = some (.goto 4, 3) ∧ mc_cd 227 13 = some (.iconst 0, 1) := by decide +kernel
theorem c227_0 : mc_cd 227 0 = some (.aload_n 0, 1) := cg227_0.1
theorem c227_1 : mc_cd 227 1 = some (.invokevirtual 376, 3) := cg227_0.2.1
theorem c227_4 : mc_cd 227 4 = some (.lconst 0, 1) := cg227_0.2.2.1
theorem c227_5 : mc_cd 227 5 = some (.lcmp, 1) := cg227_0.2.2.2.1
theorem c227_6 : mc_cd 227 6 = some (.ifCond .ne 7, 3) := cg227_0.2.2.2.2.1
theorem c227_9 : mc_cd 227 9 = some (.iconst 1, 1) := cg227_0.2.2.2.2.2.1
theorem c227_10 : mc_cd 227 10 = some (.goto 4, 3) := cg227_0.2.2.2.2.2.2.1
theorem c227_13 : mc_cd 227 13 = some (.iconst 0, 1) := cg227_0.2.2.2.2.2.2.2
theorem c227_14 : mc_cd 227 14 = some (.ireturn, 1) := by decide +kernel
abbrev q_227 (r0 : Nat) (pp : Nat) (T : wq_T) (H : wq_H) : Option Value → wq_T → wq_H → Prop := fun r T' H' => T = T' ∧ H = H' ∧ ∃ z : Int, some (vI z) = r ∧ (0 ≤ z ∧ z ≤ 1)
set_option maxHeartbeats 4000000 in
theorem s_227 {kt : Nat → Option mc_E} {T : wq_T} {H : wq_H} {r0 : Nat} {pp : Nat} (hW : WT T H) (g0 : T.2.2.2 r0 = some 42) (qpp : H r0 3 = (pp : Int)) (gpp : T.2.2.2 pp = some 54) : wpc kt 2 227 [.ref r0] T H (q_227 r0 pp T H) := by
  refine wp_enter e227 (Nat.le_of_ble_eq_true rfl) rfl ?_
  show wp _ _ 227 0 [(0, .ref r0)] [] _ H _
  refine wp_of e227 c227_0 (rw_aload_n (pc' := 1) (v := .ref r0) rfl rfl rfl ?_)
  refine wp_of e227 c227_1 (xc_V (pc' := 4) (r := r0) (as := []) (st := []) (lm_9_376) rfl rfl (Nat.le_of_ble_eq_true rfl) hW g0 sh_42 (by decide) rfl (by decide) (s_220 hW g0 qpp gpp) (fun R130222 T130223 H130224 p130225 => ?_))
  obtain ⟨e130226, e130228, z130230, e130227, b130231, p130229⟩ := p130225
  subst e130226
  subst e130227
  subst e130228
  show wp _ _ 227 4 [(0, .ref r0)] [vL z130230] _ H _
  refine wp_of e227 c227_4 (rw_lconst (pc' := 5) (z := 0) rfl rfl ?_)
  refine wp_of e227 c227_5 (rw_lcmp (pc' := 6) rfl ⟨by omega, by omega⟩ ⟨by omega, by omega⟩ ?_)
  have b130232 := wq_cmp_b z130230 0
  refine wp_of e227 c227_6 (rw_if_ne (p1 := 13) (p2 := 9) (by decide) rfl ⟨by omega, by omega⟩ (fun c130233 => ?_) (fun c130233 => ?_))
  · refine wp_of e227 c227_13 (rw_iconst (pc' := 14) rfl ?_)
    exact wp_zreturn e227 c227_14 rfl (by omega) ⟨rfl, rfl, 0, rfl, ⟨by omega, by omega⟩⟩
  · refine wp_of e227 c227_9 (rw_iconst (pc' := 10) rfl ?_)
    refine wp_of e227 c227_10 (rw_goto (p1 := 14) (by decide) ?_)
    exact wp_zreturn e227 c227_14 rfl (by omega) ⟨rfl, rfl, 1, rfl, ⟨by omega, by omega⟩⟩
/-! StrikeAwakeModel.born(I)I -/
theorem e229 : wq_en 229 = some (9, 4, false, some FieldType.int) := rfl
theorem cg229_0 : mc_cd 229 0 = some (.iconst 0, 1) ∧ mc_cd 229 1 = some (.istore_n 2, 1) ∧ mc_cd 229 2 = some (.iconst 0, 1) ∧ mc_cd 229 3 = some (.istore_n 3, 1) ∧ mc_cd 229 4 = some (.iload_n 3, 1) ∧ mc_cd 229 5 = some (.aload_n 0, 1) ∧ mc_cd 229 6 = some (.getfield 337, 3) ∧ mc_cd 229 9 = some (.getfield 288, 3) := by decide +kernel
theorem c229_0 : mc_cd 229 0 = some (.iconst 0, 1) := cg229_0.1
theorem c229_1 : mc_cd 229 1 = some (.istore_n 2, 1) := cg229_0.2.1
theorem c229_2 : mc_cd 229 2 = some (.iconst 0, 1) := cg229_0.2.2.1
theorem c229_3 : mc_cd 229 3 = some (.istore_n 3, 1) := cg229_0.2.2.2.1
theorem c229_4 : mc_cd 229 4 = some (.iload_n 3, 1) := cg229_0.2.2.2.2.1
theorem c229_5 : mc_cd 229 5 = some (.aload_n 0, 1) := cg229_0.2.2.2.2.2.1
theorem c229_6 : mc_cd 229 6 = some (.getfield 337, 3) := cg229_0.2.2.2.2.2.2.1
theorem c229_9 : mc_cd 229 9 = some (.getfield 288, 3) := cg229_0.2.2.2.2.2.2.2
theorem cg229_12 : mc_cd 229 12 = some (.if_icmp .ge 30, 3) ∧ mc_cd 229 15 = some (.iload_n 2, 1) ∧ mc_cd 229 16 = some (.aload_n 0, 1) ∧ mc_cd 229 17 = some (.getfield 337, 3) ∧ mc_cd 229 20 = some (.getfield 291, 3) ∧ mc_cd 229 23 = some (.iload_n 3, 1) ∧ mc_cd 229 24 = some (.iaload, 1) ∧ mc_cd 229 25 = some (.iload_n 1, 1) := by decide +kernel
theorem c229_12 : mc_cd 229 12 = some (.if_icmp .ge 30, 3) := cg229_12.1
theorem c229_15 : mc_cd 229 15 = some (.iload_n 2, 1) := cg229_12.2.1
theorem c229_16 : mc_cd 229 16 = some (.aload_n 0, 1) := cg229_12.2.2.1
theorem c229_17 : mc_cd 229 17 = some (.getfield 337, 3) := cg229_12.2.2.2.1
theorem c229_20 : mc_cd 229 20 = some (.getfield 291, 3) := cg229_12.2.2.2.2.1
theorem c229_23 : mc_cd 229 23 = some (.iload_n 3, 1) := cg229_12.2.2.2.2.2.1
theorem c229_24 : mc_cd 229 24 = some (.iaload, 1) := cg229_12.2.2.2.2.2.2.1
theorem c229_25 : mc_cd 229 25 = some (.iload_n 1, 1) := cg229_12.2.2.2.2.2.2.2
theorem cg229_26 : mc_cd 229 26 = some (.if_icmp .gt 7, 3) ∧ mc_cd 229 29 = some (.iconst 1, 1) ∧ mc_cd 229 30 = some (.goto 4, 3) ∧ mc_cd 229 33 = some (.iconst 0, 1) ∧ mc_cd 229 34 = some (.iadd, 1) ∧ mc_cd 229 35 = some (.istore_n 2, 1) ∧ mc_cd 229 36 = some (.iinc 3 1, 3) ∧ mc_cd 229 39 = some (.goto (-35), 3) := by decide +kernel
theorem c229_26 : mc_cd 229 26 = some (.if_icmp .gt 7, 3) := cg229_26.1
theorem c229_29 : mc_cd 229 29 = some (.iconst 1, 1) := cg229_26.2.1
theorem c229_30 : mc_cd 229 30 = some (.goto 4, 3) := cg229_26.2.2.1
theorem c229_33 : mc_cd 229 33 = some (.iconst 0, 1) := cg229_26.2.2.2.1
theorem c229_34 : mc_cd 229 34 = some (.iadd, 1) := cg229_26.2.2.2.2.1
theorem c229_35 : mc_cd 229 35 = some (.istore_n 2, 1) := cg229_26.2.2.2.2.2.1
theorem c229_36 : mc_cd 229 36 = some (.iinc 3 1, 3) := cg229_26.2.2.2.2.2.2.1
theorem c229_39 : mc_cd 229 39 = some (.goto (-35), 3) := cg229_26.2.2.2.2.2.2.2
theorem cg229_42 : mc_cd 229 42 = some (.iload_n 2, 1) ∧ mc_cd 229 43 = some (.ireturn, 1) := by decide +kernel
theorem c229_42 : mc_cd 229 42 = some (.iload_n 2, 1) := cg229_42.1
theorem c229_43 : mc_cd 229 43 = some (.ireturn, 1) := cg229_42.2
abbrev q_229 (r0 : Nat) (a1 : Int) (pp : Nat) (T : wq_T) (H : wq_H) : Option Value → wq_T → wq_H → Prop := fun r T' H' => T = T' ∧ H = H' ∧ ∃ z : Int, some (vI z) = r ∧ ((-2147483648) ≤ z ∧ z ≤ 2147483647)
set_option maxHeartbeats 4000000 in
theorem s_229 {kt : Nat → Option mc_E} {T : wq_T} {H : wq_H} {r0 : Nat} {a1 : Int} {pp : Nat} (hW : WT T H) (g0 : T.2.2.2 r0 = some 42) (i1 : (-2147483648) ≤ a1 ∧ a1 ≤ 2147483647) (qpp : H r0 3 = (pp : Int)) (gpp : T.2.2.2 pp = some 54) : wpc kt 1 229 [.ref r0, vI a1] T H (q_229 r0 a1 pp T H) := by
  refine wp_enter e229 (Nat.le_of_ble_eq_true rfl) rfl ?_
  show wp _ _ 229 0 [(0, .ref r0), (1, vI a1)] [] _ H _
  refine wp_of e229 c229_0 (rw_iconst (pc' := 1) rfl ?_)
  refine wp_of e229 c229_1 (rw_istore_n (pc' := 2) (z := 0) (L' := [(2, vI 0), (0, .ref r0), (1, vI a1)]) rfl rfl rfl ?_)
  refine wp_of e229 c229_2 (rw_iconst (pc' := 3) rfl ?_)
  refine wp_of e229 c229_3 (rw_istore_n (pc' := 4) (z := 0) (L' := [(3, vI 0), (2, vI 0), (0, .ref r0), (1, vI a1)]) rfl rfl rfl ?_)
  have lp130452 : ∀ (n130453 : Nat) (v130455 : Int) (v130456 : Int), (0 ≤ v130455 ∧ v130455 ≤ 3) → ((-2147483648) ≤ v130456 ∧ v130456 ≤ 2147483647) → (3 - v130455).toNat = n130453 → wp kt 0 229 4 [(3, vI v130455), (2, vI v130456), (0, .ref r0), (1, vI a1)] [] T H (q_229 r0 a1 pp T H) := by
    intro n130453
    induction n130453 using Nat.strongRecOn with
    | _ n130453 ih130454 =>
      intro v130455 v130456 b130459 b130460 m130461
      refine wp_of e229 c229_4 (rw_iload_n (pc' := 5) (z := v130455) rfl rfl ?_)
      refine wp_of e229 c229_5 (rw_aload_n (pc' := 6) (v := .ref r0) rfl rfl rfl ?_)
      refine wp_of e229 c229_6 (xg_K (pc' := 9) lf_9_337 hW g0 sh_42 (by decide) (by decide) rfl qpp rfl ?_)
      refine wp_of e229 c229_9 (xg_I (pc' := 12) lf_9_288 hW gpp sh_54 (by decide) (by decide) ty_54_5 rfl rfl (fun b130462 b130463 => ?_))
      refine wp_of e229 c229_12 (rw_icmp_ge (p1 := 42) (p2 := 15) (by decide) rfl ⟨by omega, by omega⟩ ⟨by omega, by omega⟩ (fun c130464 => ?_) (fun c130464 => ?_))
      · refine wp_of e229 c229_42 (rw_iload_n (pc' := 43) (z := v130456) rfl rfl ?_)
        exact wp_ireturn e229 c229_43 rfl ⟨rfl, rfl, v130456, rfl, ⟨by omega, by omega⟩⟩
      · refine wp_of e229 c229_15 (rw_iload_n (pc' := 16) (z := v130456) rfl rfl ?_)
        refine wp_of e229 c229_16 (rw_aload_n (pc' := 17) (v := .ref r0) rfl rfl rfl ?_)
        refine wp_of e229 c229_17 (xg_K (pc' := 20) lf_9_337 hW g0 sh_42 (by decide) (by decide) rfl qpp rfl ?_)
        refine wp_of e229 c229_20 (xg_R (pc' := 23) lf_9_291 hW gpp sh_54 (by decide) (by decide) ty_54_20 rfl rfl (fun r130465 q130466 g130467 => ?_))
        refine wp_of e229 c229_23 (rw_iload_n (pc' := 24) (z := v130455) rfl rfl ?_)
        refine wp_of e229 c229_24 (xa_I (so := 0) (pc' := 25) hW g130467 sh_66 (by decide) (ty_66 _) (by omega) (by omega) rfl (fun b130468 b130469 => ?_))
        refine wp_of e229 c229_25 (rw_iload_n (pc' := 26) (z := a1) rfl rfl ?_)
        refine wp_of e229 c229_26 (rw_icmp_gt (p1 := 33) (p2 := 29) (by decide) rfl ⟨by omega, by omega⟩ ⟨by omega, by omega⟩ (fun c130470 => ?_) (fun c130470 => ?_))
        · refine wp_of e229 c229_33 (rw_iconst (pc' := 34) rfl ?_)
          refine wp_of e229 c229_34 (rw_iadd (pc' := 35) rfl ?_)
          refine wp_of e229 c229_35 (rw_istore_n (pc' := 36) (z := v130456 + 0) (L' := [(2, vI (v130456 + 0)), (3, vI v130455), (0, .ref r0), (1, vI a1)]) rfl rfl rfl ?_)
          refine wp_of e229 c229_36 (rw_iinc (pc' := 39) (z := v130455) (L' := [(3, vI (v130455 + 1)), (2, vI (v130456 + 0)), (0, .ref r0), (1, vI a1)]) rfl rfl rfl rfl ?_)
          refine wp_of e229 c229_39 (rw_goto (p1 := 4) (by decide) ?_)
          exact wp_lc (ks := [3, 2, 0, 1]) (wl_c rfl (wl_c rfl (wl_c rfl (wl_c rfl wl_n)))) rfl (by decide) (ih130454 _ (by omega) (v130455 + 1) (v130456 + 0) ⟨by omega, by omega⟩ ⟨by omega, by omega⟩ rfl)
        · refine wp_of e229 c229_29 (rw_iconst (pc' := 30) rfl ?_)
          refine wp_of e229 c229_30 (rw_goto (p1 := 34) (by decide) ?_)
          refine wp_of e229 c229_34 (rw_iaddw (pc' := 35) rfl ?_)
          obtain ⟨v130471, e130472⟩ : ∃ x : Int, x = wq_w (v130456 + 1) := ⟨_, rfl⟩
          rw [← e130472]
          have b130473 : -2147483648 ≤ v130471 ∧ v130471 ≤ 2147483647 := by
            rw [e130472]
            exact wI_w _
          refine wp_of e229 c229_35 (rw_istore_n (pc' := 36) (z := v130471) (L' := [(2, vI v130471), (3, vI v130455), (0, .ref r0), (1, vI a1)]) rfl rfl rfl ?_)
          refine wp_of e229 c229_36 (rw_iinc (pc' := 39) (z := v130455) (L' := [(3, vI (v130455 + 1)), (2, vI v130471), (0, .ref r0), (1, vI a1)]) rfl rfl rfl rfl ?_)
          refine wp_of e229 c229_39 (rw_goto (p1 := 4) (by decide) ?_)
          exact wp_lc (ks := [3, 2, 0, 1]) (wl_c rfl (wl_c rfl (wl_c rfl (wl_c rfl wl_n)))) rfl (by decide) (ih130454 _ (by omega) (v130455 + 1) v130471 ⟨by omega, by omega⟩ ⟨by omega, by omega⟩ rfl)
  exact wp_lc (ks := [3, 2, 0, 1]) (wl_c rfl (wl_c rfl (wl_c rfl (wl_c rfl wl_n)))) rfl (by decide) (lp130452 _ 0 0 ⟨by omega, by omega⟩ ⟨by omega, by omega⟩ rfl)
/-! StrikeAwakeModel.strikesIn([II)I -/
theorem e228 : wq_en 228 = some (9, 5, false, some FieldType.int) := rfl
theorem cg228_0 : mc_cd 228 0 = some (.aload_n 0, 1) ∧ mc_cd 228 1 = some (.iload_n 2, 1) ∧ mc_cd 228 2 = some (.invokevirtual 384, 3) ∧ mc_cd 228 5 = some (.istore_n 3, 1) ∧ mc_cd 228 6 = some (.iconst 0, 1) ∧ mc_cd 228 7 = some (.istore 4, 2) ∧ mc_cd 228 9 = some (.iload 4, 2) ∧ mc_cd 228 11 = some (.aload_n 0, 1) := by decide +kernel
theorem c228_0 : mc_cd 228 0 = some (.aload_n 0, 1) := cg228_0.1
theorem c228_1 : mc_cd 228 1 = some (.iload_n 2, 1) := cg228_0.2.1
theorem c228_2 : mc_cd 228 2 = some (.invokevirtual 384, 3) := cg228_0.2.2.1
theorem c228_5 : mc_cd 228 5 = some (.istore_n 3, 1) := cg228_0.2.2.2.1
theorem c228_6 : mc_cd 228 6 = some (.iconst 0, 1) := cg228_0.2.2.2.2.1
theorem c228_7 : mc_cd 228 7 = some (.istore 4, 2) := cg228_0.2.2.2.2.2.1
theorem c228_9 : mc_cd 228 9 = some (.iload 4, 2) := cg228_0.2.2.2.2.2.2.1
theorem c228_11 : mc_cd 228 11 = some (.aload_n 0, 1) := cg228_0.2.2.2.2.2.2.2
theorem cg228_12 : mc_cd 228 12 = some (.getfield 337, 3) ∧ mc_cd 228 15 = some (.getfield 188, 3) ∧ mc_cd 228 18 = some (.if_icmp .ge 39, 3) ∧ mc_cd 228 21 = some (.iload_n 3, 1) ∧ mc_cd 228 22 = some (.aload_n 0, 1) ∧ mc_cd 228 23 = some (.getfield 33, 3) ∧ mc_cd 228 26 = some (.bipush 40, 2) ∧ mc_cd 228 28 = some (.iload 4, 2) := by decide +kernel
theorem c228_12 : mc_cd 228 12 = some (.getfield 337, 3) := cg228_12.1
theorem c228_15 : mc_cd 228 15 = some (.getfield 188, 3) := cg228_12.2.1
theorem c228_18 : mc_cd 228 18 = some (.if_icmp .ge 39, 3) := cg228_12.2.2.1
theorem c228_21 : mc_cd 228 21 = some (.iload_n 3, 1) := cg228_12.2.2.2.1
theorem c228_22 : mc_cd 228 22 = some (.aload_n 0, 1) := cg228_12.2.2.2.2.1
theorem c228_23 : mc_cd 228 23 = some (.getfield 33, 3) := cg228_12.2.2.2.2.2.1
theorem c228_26 : mc_cd 228 26 = some (.bipush 40, 2) := cg228_12.2.2.2.2.2.2.1
theorem c228_28 : mc_cd 228 28 = some (.iload 4, 2) := cg228_12.2.2.2.2.2.2.2
theorem cg228_30 : mc_cd 228 30 = some (.imul, 1) ∧ mc_cd 228 31 = some (.aload_n 1, 1) ∧ mc_cd 228 32 = some (.iload 4, 2) ∧ mc_cd 228 34 = some (.iaload, 1) ∧ mc_cd 228 35 = some (.iadd, 1) ∧ mc_cd 228 36 = some (.iaload, 1) ∧ mc_cd 228 37 = some (.iload_n 2, 1) ∧ mc_cd 228 38 = some (.invokestatic 346, 3) := by decide +kernel
theorem c228_30 : mc_cd 228 30 = some (.imul, 1) := cg228_30.1
theorem c228_31 : mc_cd 228 31 = some (.aload_n 1, 1) := cg228_30.2.1
theorem c228_32 : mc_cd 228 32 = some (.iload 4, 2) := cg228_30.2.2.1
theorem c228_34 : mc_cd 228 34 = some (.iaload, 1) := cg228_30.2.2.2.1
theorem c228_35 : mc_cd 228 35 = some (.iadd, 1) := cg228_30.2.2.2.2.1
theorem c228_36 : mc_cd 228 36 = some (.iaload, 1) := cg228_30.2.2.2.2.2.1
theorem c228_37 : mc_cd 228 37 = some (.iload_n 2, 1) := cg228_30.2.2.2.2.2.2.1
theorem c228_38 : mc_cd 228 38 = some (.invokestatic 346, 3) := cg228_30.2.2.2.2.2.2.2
theorem cg228_41 : mc_cd 228 41 = some (.ifCond .eq 7, 3) ∧ mc_cd 228 44 = some (.iconst 1, 1) ∧ mc_cd 228 45 = some (.goto 4, 3) ∧ mc_cd 228 48 = some (.iconst 0, 1) ∧ mc_cd 228 49 = some (.iadd, 1) ∧ mc_cd 228 50 = some (.istore_n 3, 1) ∧ mc_cd 228 51 = some (.iinc 4 1, 3) ∧ mc_cd 228 54 = some (.goto (-45), 3) := by decide +kernel
theorem c228_41 : mc_cd 228 41 = some (.ifCond .eq 7, 3) := cg228_41.1
theorem c228_44 : mc_cd 228 44 = some (.iconst 1, 1) := cg228_41.2.1
theorem c228_45 : mc_cd 228 45 = some (.goto 4, 3) := cg228_41.2.2.1
theorem c228_48 : mc_cd 228 48 = some (.iconst 0, 1) := cg228_41.2.2.2.1
theorem c228_49 : mc_cd 228 49 = some (.iadd, 1) := cg228_41.2.2.2.2.1
theorem c228_50 : mc_cd 228 50 = some (.istore_n 3, 1) := cg228_41.2.2.2.2.2.1
theorem c228_51 : mc_cd 228 51 = some (.iinc 4 1, 3) := cg228_41.2.2.2.2.2.2.1
theorem c228_54 : mc_cd 228 54 = some (.goto (-45), 3) := cg228_41.2.2.2.2.2.2.2
theorem cg228_57 : mc_cd 228 57 = some (.iload_n 3, 1) ∧ mc_cd 228 58 = some (.ireturn, 1) := by decide +kernel
theorem c228_57 : mc_cd 228 57 = some (.iload_n 3, 1) := cg228_57.1
theorem c228_58 : mc_cd 228 58 = some (.ireturn, 1) := cg228_57.2
abbrev q_228_m_lot (r0 : Nat) (r1 : Nat) (a2 : Int) (pp : Nat) (T : wq_T) (H : wq_H) : Option Value → wq_T → wq_H → Prop := fun r T' H' => T = T' ∧ H = H' ∧ ∃ z : Int, some (vI z) = r ∧ ((-2147483648) ≤ z ∧ z ≤ 2147483647)
set_option maxHeartbeats 4000000 in
theorem s_228_m_lot {kt : Nat → Option mc_E} {T : wq_T} {H : wq_H} {r0 : Nat} {r1 : Nat} {a2 : Int} {pp : Nat} (hW : WT T H) (g0 : T.2.2.2 r0 = some 42) (g1 : T.2.2.2 r1 = some 51) (i2 : (-2147483648) ≤ a2 ∧ a2 ≤ 2147483647) (qpp : H r0 3 = (pp : Int)) (gpp : T.2.2.2 pp = some 54) : wpc kt 2 228 [.ref r0, .ref r1, vI a2] T H (q_228_m_lot r0 r1 a2 pp T H) := by
  refine wp_enter e228 (Nat.le_of_ble_eq_true rfl) rfl ?_
  show wp _ _ 228 0 [(0, .ref r0), (1, .ref r1), (2, vI a2)] [] _ H _
  refine wp_of e228 c228_0 (rw_aload_n (pc' := 1) (v := .ref r0) rfl rfl rfl ?_)
  refine wp_of e228 c228_1 (rw_iload_n (pc' := 2) (z := a2) rfl rfl ?_)
  refine wp_of e228 c228_2 (xc_V (pc' := 5) (r := r0) (as := [vI a2]) (st := []) (lm_9_384) rfl rfl (Nat.le_of_ble_eq_true rfl) hW g0 sh_42 (by decide) rfl (by decide) (s_229 hW g0 ⟨by omega, by omega⟩ qpp gpp) (fun R130674 T130675 H130676 p130677 => ?_))
  obtain ⟨e130678, e130680, z130681, e130679, b130682⟩ := p130677
  subst e130678
  subst e130679
  subst e130680
  show wp _ _ 228 5 [(0, .ref r0), (1, .ref r1), (2, vI a2)] [vI z130681] _ H _
  refine wp_of e228 c228_5 (rw_istore_n (pc' := 6) (z := z130681) (L' := [(3, vI z130681), (0, .ref r0), (1, .ref r1), (2, vI a2)]) rfl rfl rfl ?_)
  refine wp_of e228 c228_6 (rw_iconst (pc' := 7) rfl ?_)
  refine wp_of e228 c228_7 (rw_istore (pc' := 9) (z := 0) (L' := [(4, vI 0), (3, vI z130681), (0, .ref r0), (1, .ref r1), (2, vI a2)]) rfl rfl rfl ?_)
  have lp130851 : ∀ (n130852 : Nat) (v130854 : Int) (v130855 : Int), (0 ≤ v130854 ∧ v130854 ≤ 6) → ((-2147483648) ≤ v130855 ∧ v130855 ≤ 2147483647) → (6 - v130854).toNat = n130852 → wp kt 1 228 9 [(4, vI v130854), (3, vI v130855), (0, .ref r0), (1, .ref r1), (2, vI a2)] [] T H (q_228_m_lot r0 r1 a2 pp T H) := by
    intro n130852
    induction n130852 using Nat.strongRecOn with
    | _ n130852 ih130853 =>
      intro v130854 v130855 b130858 b130859 m130860
      refine wp_of e228 c228_9 (rw_iload (pc' := 11) (z := v130854) rfl rfl ?_)
      refine wp_of e228 c228_11 (rw_aload_n (pc' := 12) (v := .ref r0) rfl rfl rfl ?_)
      refine wp_of e228 c228_12 (xg_K (pc' := 15) lf_9_337 hW g0 sh_42 (by decide) (by decide) rfl qpp rfl ?_)
      refine wp_of e228 c228_15 (xg_I (pc' := 18) lf_9_188 hW gpp sh_54 (by decide) (by decide) ty_54_3 rfl rfl (fun b130861 b130862 => ?_))
      refine wp_of e228 c228_18 (rw_icmp_ge (p1 := 57) (p2 := 21) (by decide) rfl ⟨by omega, by omega⟩ ⟨by omega, by omega⟩ (fun c130863 => ?_) (fun c130863 => ?_))
      · refine wp_of e228 c228_57 (rw_iload_n (pc' := 58) (z := v130855) rfl rfl ?_)
        exact wp_ireturn e228 c228_58 rfl ⟨rfl, rfl, v130855, rfl, ⟨by omega, by omega⟩⟩
      · refine wp_of e228 c228_21 (rw_iload_n (pc' := 22) (z := v130855) rfl rfl ?_)
        refine wp_of e228 c228_22 (rw_aload_n (pc' := 23) (v := .ref r0) rfl rfl rfl ?_)
        refine wp_of e228 c228_23 (xg_R (pc' := 26) lf_9_33 hW g0 sh_42 (by decide) (by decide) ty_42_25 rfl rfl (fun r130864 q130865 g130866 => ?_))
        refine wp_of e228 c228_26 (rw_bipush (pc' := 28) (z := 40) rfl (by decide) ?_)
        refine wp_of e228 c228_28 (rw_iload (pc' := 30) (z := v130854) rfl rfl ?_)
        refine wp_of e228 c228_30 (rw_imul (pc' := 31) rfl ?_)
        refine wp_of e228 c228_31 (rw_aload_n (pc' := 32) (v := .ref r1) rfl rfl rfl ?_)
        refine wp_of e228 c228_32 (rw_iload (pc' := 34) (z := v130854) rfl rfl ?_)
        refine wp_of e228 c228_34 (xa_I (so := 0) (pc' := 35) hW g1 sh_51 (by decide) (ty_51 _) (by omega) (by omega) rfl (fun b130867 b130868 => ?_))
        refine wp_of e228 c228_35 (rw_iadd (pc' := 36) rfl ?_)
        refine wp_of e228 c228_36 (xa_I (so := 0) (pc' := 37) hW g130866 sh_49 (by decide) (ty_49 _) (by omega) (by omega) rfl (fun b130869 b130870 => ?_))
        refine wp_of e228 c228_37 (rw_iload_n (pc' := 38) (z := a2) rfl rfl ?_)
        refine wp_of e228 c228_38 (xc_S (pc' := 41) (as := [vI (H r130864 (((40 * v130854) + (H r1 (v130854.toNat))).toNat)), vI a2]) (st := [vI v130855]) (lm_9_346) rfl rfl (Nat.le_of_ble_eq_true rfl) rfl (by decide) (s_205 hW ⟨by omega, by omega⟩ ⟨by omega, by omega⟩) (fun R130871 T130872 H130873 p130874 => ?_))
        obtain ⟨e130875, e130877, z130878, e130876, b130879⟩ := p130874
        subst e130875
        subst e130876
        subst e130877
        show wp _ _ 228 41 [(4, vI v130854), (3, vI v130855), (0, .ref r0), (1, .ref r1), (2, vI a2)] [vI z130878, vI v130855] _ H _
        refine wp_of e228 c228_41 (rw_if_eq (p1 := 48) (p2 := 44) (by decide) rfl ⟨by omega, by omega⟩ (fun c130880 => ?_) (fun c130880 => ?_))
        · refine wp_of e228 c228_48 (rw_iconst (pc' := 49) rfl ?_)
          refine wp_of e228 c228_49 (rw_iadd (pc' := 50) rfl ?_)
          refine wp_of e228 c228_50 (rw_istore_n (pc' := 51) (z := v130855 + 0) (L' := [(3, vI (v130855 + 0)), (4, vI v130854), (0, .ref r0), (1, .ref r1), (2, vI a2)]) rfl rfl rfl ?_)
          refine wp_of e228 c228_51 (rw_iinc (pc' := 54) (z := v130854) (L' := [(4, vI (v130854 + 1)), (3, vI (v130855 + 0)), (0, .ref r0), (1, .ref r1), (2, vI a2)]) rfl rfl rfl rfl ?_)
          refine wp_of e228 c228_54 (rw_goto (p1 := 9) (by decide) ?_)
          exact wp_lc (ks := [4, 3, 0, 1, 2]) (wl_c rfl (wl_c rfl (wl_c rfl (wl_c rfl (wl_c rfl wl_n))))) rfl (by decide) (ih130853 _ (by omega) (v130854 + 1) (v130855 + 0) ⟨by omega, by omega⟩ ⟨by omega, by omega⟩ rfl)
        · refine wp_of e228 c228_44 (rw_iconst (pc' := 45) rfl ?_)
          refine wp_of e228 c228_45 (rw_goto (p1 := 49) (by decide) ?_)
          refine wp_of e228 c228_49 (rw_iaddw (pc' := 50) rfl ?_)
          obtain ⟨v130881, e130882⟩ : ∃ x : Int, x = wq_w (v130855 + 1) := ⟨_, rfl⟩
          rw [← e130882]
          have b130883 : -2147483648 ≤ v130881 ∧ v130881 ≤ 2147483647 := by
            rw [e130882]
            exact wI_w _
          refine wp_of e228 c228_50 (rw_istore_n (pc' := 51) (z := v130881) (L' := [(3, vI v130881), (4, vI v130854), (0, .ref r0), (1, .ref r1), (2, vI a2)]) rfl rfl rfl ?_)
          refine wp_of e228 c228_51 (rw_iinc (pc' := 54) (z := v130854) (L' := [(4, vI (v130854 + 1)), (3, vI v130881), (0, .ref r0), (1, .ref r1), (2, vI a2)]) rfl rfl rfl rfl ?_)
          refine wp_of e228 c228_54 (rw_goto (p1 := 9) (by decide) ?_)
          exact wp_lc (ks := [4, 3, 0, 1, 2]) (wl_c rfl (wl_c rfl (wl_c rfl (wl_c rfl (wl_c rfl wl_n))))) rfl (by decide) (ih130853 _ (by omega) (v130854 + 1) v130881 ⟨by omega, by omega⟩ ⟨by omega, by omega⟩ rfl)
  exact wp_lc (ks := [4, 3, 0, 1, 2]) (wl_c rfl (wl_c rfl (wl_c rfl (wl_c rfl (wl_c rfl wl_n))))) rfl (by decide) (lp130851 _ 0 z130681 ⟨by omega, by omega⟩ ⟨by omega, by omega⟩ rfl)

/-! StrikeAwakeModel.strikesIn([II)I -/
abbrev q_228_m_said (r0 : Nat) (r1 : Nat) (a2 : Int) (pp : Nat) (T : wq_T) (H : wq_H) : Option Value → wq_T → wq_H → Prop := fun r T' H' => T = T' ∧ H = H' ∧ ∃ z : Int, some (vI z) = r ∧ ((-2147483648) ≤ z ∧ z ≤ 2147483647)
set_option maxHeartbeats 4000000 in
theorem s_228_m_said {kt : Nat → Option mc_E} {T : wq_T} {H : wq_H} {r0 : Nat} {r1 : Nat} {a2 : Int} {pp : Nat} (hW : WT T H) (g0 : T.2.2.2 r0 = some 42) (g1 : T.2.2.2 r1 = some 50) (i2 : (-2147483648) ≤ a2 ∧ a2 ≤ 2147483647) (qpp : H r0 3 = (pp : Int)) (gpp : T.2.2.2 pp = some 54) : wpc kt 2 228 [.ref r0, .ref r1, vI a2] T H (q_228_m_said r0 r1 a2 pp T H) := by
  refine wp_enter e228 (Nat.le_of_ble_eq_true rfl) rfl ?_
  show wp _ _ 228 0 [(0, .ref r0), (1, .ref r1), (2, vI a2)] [] _ H _
  refine wp_of e228 c228_0 (rw_aload_n (pc' := 1) (v := .ref r0) rfl rfl rfl ?_)
  refine wp_of e228 c228_1 (rw_iload_n (pc' := 2) (z := a2) rfl rfl ?_)
  refine wp_of e228 c228_2 (xc_V (pc' := 5) (r := r0) (as := [vI a2]) (st := []) (lm_9_384) rfl rfl (Nat.le_of_ble_eq_true rfl) hW g0 sh_42 (by decide) rfl (by decide) (s_229 hW g0 ⟨by omega, by omega⟩ qpp gpp) (fun R131084 T131085 H131086 p131087 => ?_))
  obtain ⟨e131088, e131090, z131091, e131089, b131092⟩ := p131087
  subst e131088
  subst e131089
  subst e131090
  show wp _ _ 228 5 [(0, .ref r0), (1, .ref r1), (2, vI a2)] [vI z131091] _ H _
  refine wp_of e228 c228_5 (rw_istore_n (pc' := 6) (z := z131091) (L' := [(3, vI z131091), (0, .ref r0), (1, .ref r1), (2, vI a2)]) rfl rfl rfl ?_)
  refine wp_of e228 c228_6 (rw_iconst (pc' := 7) rfl ?_)
  refine wp_of e228 c228_7 (rw_istore (pc' := 9) (z := 0) (L' := [(4, vI 0), (3, vI z131091), (0, .ref r0), (1, .ref r1), (2, vI a2)]) rfl rfl rfl ?_)
  have lp131261 : ∀ (n131262 : Nat) (v131264 : Int) (v131265 : Int), (0 ≤ v131264 ∧ v131264 ≤ 6) → ((-2147483648) ≤ v131265 ∧ v131265 ≤ 2147483647) → (6 - v131264).toNat = n131262 → wp kt 1 228 9 [(4, vI v131264), (3, vI v131265), (0, .ref r0), (1, .ref r1), (2, vI a2)] [] T H (q_228_m_said r0 r1 a2 pp T H) := by
    intro n131262
    induction n131262 using Nat.strongRecOn with
    | _ n131262 ih131263 =>
      intro v131264 v131265 b131268 b131269 m131270
      refine wp_of e228 c228_9 (rw_iload (pc' := 11) (z := v131264) rfl rfl ?_)
      refine wp_of e228 c228_11 (rw_aload_n (pc' := 12) (v := .ref r0) rfl rfl rfl ?_)
      refine wp_of e228 c228_12 (xg_K (pc' := 15) lf_9_337 hW g0 sh_42 (by decide) (by decide) rfl qpp rfl ?_)
      refine wp_of e228 c228_15 (xg_I (pc' := 18) lf_9_188 hW gpp sh_54 (by decide) (by decide) ty_54_3 rfl rfl (fun b131271 b131272 => ?_))
      refine wp_of e228 c228_18 (rw_icmp_ge (p1 := 57) (p2 := 21) (by decide) rfl ⟨by omega, by omega⟩ ⟨by omega, by omega⟩ (fun c131273 => ?_) (fun c131273 => ?_))
      · refine wp_of e228 c228_57 (rw_iload_n (pc' := 58) (z := v131265) rfl rfl ?_)
        exact wp_ireturn e228 c228_58 rfl ⟨rfl, rfl, v131265, rfl, ⟨by omega, by omega⟩⟩
      · refine wp_of e228 c228_21 (rw_iload_n (pc' := 22) (z := v131265) rfl rfl ?_)
        refine wp_of e228 c228_22 (rw_aload_n (pc' := 23) (v := .ref r0) rfl rfl rfl ?_)
        refine wp_of e228 c228_23 (xg_R (pc' := 26) lf_9_33 hW g0 sh_42 (by decide) (by decide) ty_42_25 rfl rfl (fun r131274 q131275 g131276 => ?_))
        refine wp_of e228 c228_26 (rw_bipush (pc' := 28) (z := 40) rfl (by decide) ?_)
        refine wp_of e228 c228_28 (rw_iload (pc' := 30) (z := v131264) rfl rfl ?_)
        refine wp_of e228 c228_30 (rw_imul (pc' := 31) rfl ?_)
        refine wp_of e228 c228_31 (rw_aload_n (pc' := 32) (v := .ref r1) rfl rfl rfl ?_)
        refine wp_of e228 c228_32 (rw_iload (pc' := 34) (z := v131264) rfl rfl ?_)
        refine wp_of e228 c228_34 (xa_I (so := 0) (pc' := 35) hW g1 sh_50 (by decide) (ty_50 _) (by omega) (by omega) rfl (fun b131277 b131278 => ?_))
        refine wp_of e228 c228_35 (rw_iadd (pc' := 36) rfl ?_)
        refine wp_of e228 c228_36 (xa_I (so := 0) (pc' := 37) hW g131276 sh_49 (by decide) (ty_49 _) (by omega) (by omega) rfl (fun b131279 b131280 => ?_))
        refine wp_of e228 c228_37 (rw_iload_n (pc' := 38) (z := a2) rfl rfl ?_)
        refine wp_of e228 c228_38 (xc_S (pc' := 41) (as := [vI (H r131274 (((40 * v131264) + (H r1 (v131264.toNat))).toNat)), vI a2]) (st := [vI v131265]) (lm_9_346) rfl rfl (Nat.le_of_ble_eq_true rfl) rfl (by decide) (s_205 hW ⟨by omega, by omega⟩ ⟨by omega, by omega⟩) (fun R131281 T131282 H131283 p131284 => ?_))
        obtain ⟨e131285, e131287, z131288, e131286, b131289⟩ := p131284
        subst e131285
        subst e131286
        subst e131287
        show wp _ _ 228 41 [(4, vI v131264), (3, vI v131265), (0, .ref r0), (1, .ref r1), (2, vI a2)] [vI z131288, vI v131265] _ H _
        refine wp_of e228 c228_41 (rw_if_eq (p1 := 48) (p2 := 44) (by decide) rfl ⟨by omega, by omega⟩ (fun c131290 => ?_) (fun c131290 => ?_))
        · refine wp_of e228 c228_48 (rw_iconst (pc' := 49) rfl ?_)
          refine wp_of e228 c228_49 (rw_iadd (pc' := 50) rfl ?_)
          refine wp_of e228 c228_50 (rw_istore_n (pc' := 51) (z := v131265 + 0) (L' := [(3, vI (v131265 + 0)), (4, vI v131264), (0, .ref r0), (1, .ref r1), (2, vI a2)]) rfl rfl rfl ?_)
          refine wp_of e228 c228_51 (rw_iinc (pc' := 54) (z := v131264) (L' := [(4, vI (v131264 + 1)), (3, vI (v131265 + 0)), (0, .ref r0), (1, .ref r1), (2, vI a2)]) rfl rfl rfl rfl ?_)
          refine wp_of e228 c228_54 (rw_goto (p1 := 9) (by decide) ?_)
          exact wp_lc (ks := [4, 3, 0, 1, 2]) (wl_c rfl (wl_c rfl (wl_c rfl (wl_c rfl (wl_c rfl wl_n))))) rfl (by decide) (ih131263 _ (by omega) (v131264 + 1) (v131265 + 0) ⟨by omega, by omega⟩ ⟨by omega, by omega⟩ rfl)
        · refine wp_of e228 c228_44 (rw_iconst (pc' := 45) rfl ?_)
          refine wp_of e228 c228_45 (rw_goto (p1 := 49) (by decide) ?_)
          refine wp_of e228 c228_49 (rw_iaddw (pc' := 50) rfl ?_)
          obtain ⟨v131291, e131292⟩ : ∃ x : Int, x = wq_w (v131265 + 1) := ⟨_, rfl⟩
          rw [← e131292]
          have b131293 : -2147483648 ≤ v131291 ∧ v131291 ≤ 2147483647 := by
            rw [e131292]
            exact wI_w _
          refine wp_of e228 c228_50 (rw_istore_n (pc' := 51) (z := v131291) (L' := [(3, vI v131291), (4, vI v131264), (0, .ref r0), (1, .ref r1), (2, vI a2)]) rfl rfl rfl ?_)
          refine wp_of e228 c228_51 (rw_iinc (pc' := 54) (z := v131264) (L' := [(4, vI (v131264 + 1)), (3, vI v131291), (0, .ref r0), (1, .ref r1), (2, vI a2)]) rfl rfl rfl rfl ?_)
          refine wp_of e228 c228_54 (rw_goto (p1 := 9) (by decide) ?_)
          exact wp_lc (ks := [4, 3, 0, 1, 2]) (wl_c rfl (wl_c rfl (wl_c rfl (wl_c rfl (wl_c rfl wl_n))))) rfl (by decide) (ih131263 _ (by omega) (v131264 + 1) v131291 ⟨by omega, by omega⟩ ⟨by omega, by omega⟩ rfl)
  exact wp_lc (ks := [4, 3, 0, 1, 2]) (wl_c rfl (wl_c rfl (wl_c rfl (wl_c rfl (wl_c rfl wl_n))))) rfl (by decide) (lp131261 _ 0 z131091 ⟨by omega, by omega⟩ ⟨by omega, by omega⟩ rfl)
